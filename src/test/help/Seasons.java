/** Seasons that several tests begin with, and what they ask of a whole programme or row. */
final class Seasons {
    static final int NONE = -1;

    private Seasons() {
    }

    /** Modes 0 .. n - 1 of all hours that share no note. */
    static SeasonOfHours withModes(int n) {
        SeasonOfHours x = new SeasonOfHours();
        for (int i = 0; i < n; i++) {
            x.mode(3 << 2 * i, 15);
        }
        return x;
    }

    static SeasonOfHours withArtists(int modes, int... ranks) {
        SeasonOfHours x = withModes(modes);
        for (int rank : ranks) {
            x.artist(rank);
        }
        return x;
    }

    /** As withArtists, and each artist has the same liking for each mode. */
    static SeasonOfHours liking(int v, int modes, int... ranks) {
        SeasonOfHours x = withArtists(modes, ranks);
        for (int artist = 0; artist < ranks.length; artist++) {
            for (int mode = 0; mode < modes; mode++) {
                x.like(artist, mode, v);
            }
        }
        return x;
    }

    /** Something of everything, and room for more: 3 modes, 3 artists, 4 slots, 4 pieces. */
    static SeasonOfHours some() {
        SeasonOfHours x = new SeasonOfHours();
        x.mode(0b000000001111, 15);
        x.mode(0b000000111100, 7);
        x.mode(0b111100000000, 5);
        x.artist(4);
        x.artist(6);
        x.artist(4);
        int[][] likings = {{0, 0, 30}, {0, 1, 20}, {1, 1, 50}, {1, 2, 10}, {2, 0, 25}, {2, 2, 5}};
        for (int[] l : likings) {
            x.like(l[0], l[1], l[2]);
        }
        x.rival(0, 1, true);
        x.ill(2, true);
        x.set(0, 3);
        x.set(1, 5);
        x.season(2, 2);
        x.put(0, 0, 0);
        x.put(1, 1, 1);
        x.put(3, 2, 2);
        x.piece(0, 20, 10, true);
        x.piece(1, 30, 20, false);
        x.piece(2, 10, 5, false);
        x.piece(0, 15, 8, true);
        x.played(0, 100);
        x.played(2, 0);
        x.row(50, 45);
        int[][] votes = {{0, 0}, {0, 1}, {6, 2}, {3, 1}, {3, 0}};
        for (int[] v : votes) {
            x.vote(v[0], v[1]);
        }
        x.kin(0, 0, true);
        x.kin(5, 1, true);
        return x;
    }

    /** As much of everything as there can be, in some 130 calls. */
    static SeasonOfHours full() {
        SeasonOfHours x = new SeasonOfHours();
        int[] notes = {0b111, 0b11100, 0b1110000, 0b111000000001, 0b101010101010, 4095};
        int[] hours = {15, 15, 7, 3, 5, 14};
        int[] ranks = {1, 9, 5, 5, 3, 7};
        for (int i = 0; i < 6; i++) {
            x.mode(notes[i], hours[i]);
            x.artist(ranks[i]);
        }
        for (int i = 0; i < 36; i++) {
            x.like(i / 6, i % 6, (i / 6 * 17 + i % 6 * 29) % 101);
        }
        x.rival(0, 5, true);
        x.rival(3, 2, true);
        x.ill(4, true);
        x.set(0, 2);
        x.set(1, 10);
        x.season(3, 2);
        for (int slot = 0; slot < 6; slot++) {
            x.put(slot, 5 - slot, slot);
        }
        for (int i = 0; i < 10; i++) {
            x.piece(i % 6, 5 + 5 * i, 100 - 7 * i, i % 3 == 1);
            x.played(i, i == 9 ? 400 : 40 * i);
        }
        x.row(200, 120);
        for (int i = 0; i < 42; i++) {
            x.vote(i / 6, (i / 6 + i % 6) % 6);
        }
        x.kin(0, 0, true);
        x.kin(6, 5, true);
        x.kin(3, 4, true);
        return x;
    }

    static void slots(String run, SeasonOfHours x, int... artistsAndModes) {
        for (int i = 0; i < artistsAndModes.length / 2; i++) {
            Check.due(run + ": artist at " + i, x.at(i, 0), artistsAndModes[2 * i]);
            Check.due(run + ": mode at " + i, x.at(i, 1), artistsAndModes[2 * i + 1]);
        }
    }

    static void rowIs(String run, SeasonOfHours x, int... pieces) {
        Check.due(run + ": count(6)", x.count(6), pieces.length);
        for (int i = 0; i < pieces.length; i++) {
            Check.due(run + ": told(" + i + ")", x.told(i), pieces[i]);
        }
        Check.due(run + ": told behind the end", x.told(pieces.length), NONE);
    }
}
