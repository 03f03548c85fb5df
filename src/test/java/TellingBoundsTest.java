import java.util.List;

/** Promises 1 to 10 and the bounds of Terms 1: each sentence that names a boundary, on both its sides. */
public final class TellingBoundsTest {
    private static final int NONE = SeasonOfHours.NONE;
    private static final int MIN = Integer.MIN_VALUE;
    private static final int MAX = Integer.MAX_VALUE;

    public static void main(String[] args) {
        newObject();
        newObjectKnowsNoNumber();
        notes();
        notesAreTwelveBits();
        hours();
        sixModes();
        ranks();
        sixArtists();
        likings();
        likingAtFirst();
        likeNumbers();
        rivalNumbers();
        oneAlone();
        rivalsAtFirst();
        illNumbers();
        illAtFirst();
        limit();
        rest();
        setOthers();
        evenings();
        slotsOfEvening();
        slotsInAll();
        seasonEmptiesProgramme();
        nearBounds();
        countBounds();
        countsOfFull();
        refusedAheadOfTheirTime();
        Check.end();
    }

    /** 1: "As told; no MODES, ARTISTS, PIECES", with all that Terms 1 and 2 call "at first". */
    private static void newObject() {
        SeasonOfHours x = new SeasonOfHours();
        int[] counts = {0, 0, 1, 0, 0, 0, 0};
        for (int what = 0; what < counts.length; what++) {
            Check.due("1: count(" + what + ")", x.count(what), counts[what]);
        }
        Seasons.slots("1: nobody at first", x, NONE, NONE);
        Check.refused("1: one slot at first", x, Call.at(1, 0), Call.put(1, NONE, 0));
        Check.due("1: nobody is good", x.wrong(), 0);
        Check.due("1: LIMIT at first", x.set(0, 0), 12);
        Check.due("1: REST at first", x.set(1, 0), 7);
        Check.due("1: best of nothing", x.best(), 0);
        Check.due("1: nothing to mend", x.mend(), 0);
        Seasons.rowIs("1: no row", x);
    }

    private static void newObjectKnowsNoNumber() {
        SeasonOfHours x = new SeasonOfHours();
        Check.refused("1: none such", x, Call.like(0, 0, 1), Call.rival(0, 1, true), Call.ill(0, true),
            Call.near(0, 0), Call.put(0, 0, 0), Call.piece(0, 1, 1, true), Call.played(0, 0), Call.row(0, 300),
            Call.told(0), Call.vote(0, 0), Call.kin(0, 0, true), Call.points(0), Call.prize(0));
        Check.yes("1: nobody can be put", x.put(0, NONE, 0));
        Check.due("1: still no mode", x.count(0), 0);
        Check.due("1: still no artist", x.count(1), 0);
        Check.due("1: still no piece", x.count(5), 0);
    }

    /** 2: "Refused: notes not 0 .. 4095". */
    private static void notes() {
        SeasonOfHours x = new SeasonOfHours();
        Check.refused("2: notes", x, Call.mode(-1, 15), Call.mode(4096, 15), Call.mode(MIN, 15),
            Call.mode(MAX, 15));
        Check.due("2: no mode of refused notes", x.count(0), 0);
        Check.due("2: no notes", x.mode(0, 15), 0);
        Check.due("2: all notes", x.mode(4095, 15), 1);
        Check.refused("2: notes again", x, Call.mode(-1, 15), Call.mode(4096, 15));
        Check.due("2: no notes are shared", x.near(0, 0), 0);
        Check.due("2: all notes are shared", x.near(1, 1), 12);
        Check.due("2: two modes", x.count(0), 2);
    }

    /** Terms 1: "some of 12 NOTES (bits)". */
    private static void notesAreTwelveBits() {
        for (int note = 0; note < 12; note++) {
            SeasonOfHours x = new SeasonOfHours();
            x.mode(1 << note, 15);
            x.mode(4095, 15);
            x.mode(4095 - (1 << note), 15);
            Check.due("2: note " + note + " alone", x.near(0, 1), 1);
            Check.due("2: all but note " + note, x.near(2, 1), 11);
            Check.due("2: note " + note + " against the others", x.near(0, 2), 0);
        }
    }

    /** 2: "hours not 0 .. 15"; Terms 1: "some HOURS 0 .. 3 (bits)", of which SLOTS have 0 .. 2. */
    private static void hours() {
        SeasonOfHours x = new SeasonOfHours();
        Check.refused("2: hours", x, Call.mode(7, -1), Call.mode(7, 16), Call.mode(7, MIN), Call.mode(7, MAX));
        Check.due("2: no mode of refused hours", x.count(0), 0);
        int[] hours = {0, 15, 1, 2, 4, 8};
        int[][] goodAt = {{0, 0, 0}, {1, 1, 1}, {1, 0, 0}, {0, 1, 0}, {0, 0, 1}, {0, 0, 0}};
        x.artist(5);
        x.season(1, 3);
        for (int mode = 0; mode < 6; mode++) {
            Check.due("2: hours " + hours[mode], x.mode(7, hours[mode]), mode);
            x.like(0, mode, 1);
            for (int slot = 0; slot < 3; slot++) {
                x.put(slot, 0, mode);
                int due = goodAt[mode][slot] == 1 ? 0 : 40 + slot;
                Check.due("2: hours " + hours[mode] + " at " + slot, x.wrong(), due);
                x.put(slot, NONE, 0);
            }
        }
    }

    /** 2: "6"; Terms 1: "MODES 0 .. (at most 6)". */
    private static void sixModes() {
        SeasonOfHours x = new SeasonOfHours();
        for (int i = 0; i < 6; i++) {
            Check.due("2: the modes ahead", x.count(0), i);
            Check.due("2: its number", x.mode((1 << i) - 1, 15), i);
        }
        Check.refused("2: a seventh", x, Call.mode(0, 0), Call.mode(4095, 15), Call.mode(7, 1), Call.mode(-1, 16));
        Check.due("2: six modes", x.count(0), 6);
        for (int i = 0; i < 6; i++) {
            Check.due("2: mode " + i + " keeps its notes", x.near(i, i), i);
        }
    }

    /** 3: "Refused: another RANK"; Terms 1: "a RANK 1 .. 9". */
    private static void ranks() {
        for (int rank = 1; rank <= 9; rank++) {
            SeasonOfHours x = new SeasonOfHours();
            Check.refused("3: rank", x, Call.artist(0), Call.artist(10), Call.artist(-1), Call.artist(MIN),
                Call.artist(MAX));
            Check.due("3: no artist of a refused rank", x.count(1), 0);
            Check.due("3: rank " + rank, x.artist(rank), 0);
            Check.due("3: one artist", x.count(1), 1);
        }
        SeasonOfHours x = Seasons.liking(1, 2, 1, 9);
        x.season(1, 2);
        x.put(0, 0, 0);
        x.put(1, 1, 1);
        Check.due("3: rank 9 behind rank 1", x.wrong(), 0);
        x.put(0, 1, 0);
        x.put(1, 0, 1);
        Check.due("3: rank 1 behind rank 9", x.wrong(), 61);
    }

    /** 3: "6"; Terms 1: "ARTISTS 0 .. (at most 6)". */
    private static void sixArtists() {
        SeasonOfHours x = new SeasonOfHours();
        for (int i = 0; i < 6; i++) {
            Check.due("3: the artists ahead", x.count(1), i);
            Check.due("3: its number", x.artist(9 - i), i);
        }
        Check.refused("3: a seventh", x, Call.artist(1), Call.artist(9), Call.artist(0), Call.artist(MAX));
        Check.due("3: six artists", x.count(1), 6);
        for (int i = 0; i < 6; i++) {
            Check.due("3: ranks are kept", x.prize(i), i);
        }
    }

    /** 4: "Refused: others"; Terms 1: "a LIKING 0 .. 100". */
    private static void likings() {
        SeasonOfHours x = Seasons.withArtists(1, 5);
        x.put(0, 0, 0);
        for (int v : new int[] {100, 1, 50, 0, 99}) {
            Check.yes("4: liking " + v, x.like(0, 0, v));
            Check.due("4: it is " + v, x.count(4), v);
            Check.refused("4: liking", x, Call.like(0, 0, -1), Call.like(0, 0, 101), Call.like(0, 0, MIN),
                Call.like(0, 0, MAX));
            Check.due("4: it is still " + v, x.count(4), v);
        }
    }

    /** Terms 1: "at first 0, and then it does not play it"; "plays (LIKING above 0)". */
    private static void likingAtFirst() {
        SeasonOfHours x = Seasons.withArtists(1, 5);
        x.put(0, 0, 0);
        Check.due("4: at first 0", x.count(4), 0);
        Check.due("4: at first it does not play it", x.wrong(), 30);
        Check.due("4: nor does best", x.best(), 0);
        Check.due("4: nobody is there", x.count(3), 0);
        x.like(0, 0, 1);
        Check.due("4: a liking of 1 is played", x.best(), 1);
        Check.due("4: and good", x.wrong(), 0);
        x.like(0, 0, 0);
        Check.due("4: a liking of 0 again", x.wrong(), 30);
        Check.due("4: is mended", x.mend(), 1);
        Seasons.slots("4: by nobody", x, NONE, NONE);
    }

    private static void likeNumbers() {
        SeasonOfHours x = Seasons.withArtists(2, 5, 5);
        Check.refused("4: artist", x, Call.like(-1, 0, 9), Call.like(2, 0, 9), Call.like(MIN, 0, 9),
            Call.like(MAX, 0, 9));
        Check.refused("4: mode", x, Call.like(0, -1, 9), Call.like(0, 2, 9), Call.like(0, MIN, 9),
            Call.like(0, MAX, 9));
        Check.due("4: nobody likes anything", x.best(), 0);
        Check.yes("4: the last of both", x.like(1, 1, 9));
        Check.due("4: likes it", x.best(), 9);
        Seasons.slots("4: just this", x, 1, 1);
        SeasonOfHours full = Seasons.withArtists(6, 1, 2, 3, 4, 5, 6);
        Check.yes("4: the last of six", full.like(5, 5, 8));
        Check.yes("4: the first of six", full.like(0, 0, 7));
        Check.refused("4: of a full season", full, Call.like(6, 0, 9), Call.like(0, 6, 9), Call.like(6, 6, 9),
            Call.like(-1, 5, 9));
        Check.due("4: the greater one", full.best(), 8);
        Seasons.slots("4: the last of six", full, 5, 5);
    }

    /** 5: "Refused: others". */
    private static void rivalNumbers() {
        SeasonOfHours x = Seasons.liking(1, 2, 5, 5, 5, 5, 5, 5);
        Check.refused("5: artist", x, Call.rival(-1, 0, true), Call.rival(6, 0, true), Call.rival(MIN, 0, true),
            Call.rival(MAX, 0, true), Call.rival(0, -1, true), Call.rival(0, 6, true), Call.rival(0, MIN, true),
            Call.rival(0, MAX, true), Call.rival(-1, 6, true));
        x.season(1, 2);
        x.put(0, 0, 0);
        x.put(1, 5, 1);
        Check.due("5: no rivals", x.wrong(), 0);
        Check.yes("5: the first and the last", x.rival(0, 5, true));
        Check.due("5: are rivals", x.wrong(), 71);
        Check.refused("5: not any more", x, Call.rival(0, 6, false), Call.rival(-1, 5, false));
        Check.due("5: still rivals", x.wrong(), 71);
        Check.yes("5: the last and the first", x.rival(5, 0, false));
        Check.due("5: no rivals any more", x.wrong(), 0);
    }

    /** 5: "one alone". */
    private static void oneAlone() {
        SeasonOfHours x = Seasons.liking(9, 1, 5, 5, 5, 5, 5, 5);
        for (int artist = 0; artist < 6; artist++) {
            Check.refused("5: one alone", x, Call.rival(artist, artist, true), Call.rival(artist, artist, false));
            x.put(0, artist, 0);
            Check.due("5: no rival of itself", x.wrong(), 0);
        }
        Check.due("5: all may play", x.best(), 9);
    }

    private static void rivalsAtFirst() {
        SeasonOfHours x = Seasons.liking(1, 2, 5, 5, 5, 5, 5, 5);
        x.season(1, 2);
        for (int i = 0; i < 36; i++) {
            if (i / 6 != i % 6) {
                x.put(0, i / 6, 0);
                x.put(1, i % 6, 1);
                Check.due("5: no rivals at first", x.wrong(), 0);
            }
        }
        Check.yes("5: not rivals, told though they are none", x.rival(0, 1, false));
        Check.due("5: two play", x.best(), 2);
    }

    /** 6: "false for none such". */
    private static void illNumbers() {
        SeasonOfHours x = Seasons.liking(3, 1, 5, 5, 5, 5, 5, 5);
        for (boolean is : new boolean[] {true, false}) {
            Check.refused("6: none such", x, Call.ill(-1, is), Call.ill(6, is), Call.ill(MIN, is),
                Call.ill(MAX, is));
        }
        for (int artist : new int[] {0, 5}) {
            x.put(0, artist, 0);
            Check.due("6: well", x.wrong(), 0);
            Check.yes("6: the first and the last", x.ill(artist, true));
            Check.due("6: ill", x.wrong(), 10);
            Check.refused("6: none such gets well", x, Call.ill(-1, false), Call.ill(6, false));
            Check.due("6: still ill", x.wrong(), 10);
            Check.yes("6: gets well", x.ill(artist, false));
            Check.due("6: well again", x.wrong(), 0);
        }
    }

    private static void illAtFirst() {
        SeasonOfHours x = Seasons.liking(3, 1, 5);
        x.ill(0, true);
        Check.due("6: nobody is well", x.best(), 0);
        x.artist(5);
        x.like(1, 0, 2);
        Check.due("6: a new one is well", x.best(), 2);
    }

    /** 7: "LIMIT (what 0)"; Terms 1: "LIMIT (0 .. 12, at first 12)". */
    private static void limit() {
        SeasonOfHours x = new SeasonOfHours();
        Check.due("7: LIMIT at first", x.set(0, 12), 12);
        int was = 12;
        for (int v : new int[] {0, 1, 11, 12, 6}) {
            Check.due("7: LIMIT becomes " + v, x.set(0, v), was);
            was = v;
            Check.refused("7: LIMIT", x, Call.set(0, -1), Call.set(0, 13), Call.set(0, 30), Call.set(0, MIN),
                Call.set(0, MAX));
            Check.due("7: LIMIT is " + v, x.set(0, v), v);
        }
        Check.due("7: REST is as it was", x.set(1, 7), 7);
    }

    /** 7: "REST (1)"; Terms 2: "REST DAYS (0 .. 30, at first 7)". */
    private static void rest() {
        SeasonOfHours x = new SeasonOfHours();
        Check.due("7: REST at first", x.set(1, 7), 7);
        int was = 7;
        for (int v : new int[] {0, 1, 12, 13, 29, 30}) {
            Check.due("7: REST becomes " + v, x.set(1, v), was);
            was = v;
            Check.refused("7: REST", x, Call.set(1, -1), Call.set(1, 31), Call.set(1, MIN), Call.set(1, MAX));
            Check.due("7: REST is " + v, x.set(1, v), v);
        }
        Check.due("7: LIMIT is as it was", x.set(0, 12), 12);
    }

    /** 7: "Refused: others". */
    private static void setOthers() {
        SeasonOfHours x = new SeasonOfHours();
        for (int v : new int[] {12, 0, 5, -1, MIN, MAX}) {
            Check.refused("7: what", x, Call.set(-1, v), Call.set(2, v), Call.set(MIN, v), Call.set(MAX, v));
        }
        Check.due("7: LIMIT stays", x.set(0, 3), 12);
        Check.due("7: REST stays", x.set(1, 3), 7);
    }

    /** 8: "Refused: others"; Terms 1: "e 1 .. 3, at first 1". */
    private static void evenings() {
        SeasonOfHours x = new SeasonOfHours();
        for (int e = 1; e <= 3; e++) {
            Check.yes("8: evenings " + e, x.season(e, 1));
            Check.due("8: slots of " + e + " evenings", x.count(2), e);
            Check.refused("8: evenings", x, Call.season(0, 1), Call.season(4, 1), Call.season(-1, 1),
                Call.season(6, 1), Call.season(MIN, 1), Call.season(MAX, 1), Call.season(0, 3));
            Check.due("8: still slots of " + e + " evenings", x.count(2), e);
        }
    }

    /** Terms 1: "s 1 .. 3, at first 1". */
    private static void slotsOfEvening() {
        SeasonOfHours x = new SeasonOfHours();
        for (int s = 1; s <= 3; s++) {
            Check.yes("8: slots " + s, x.season(1, s));
            Check.due("8: slots of one evening", x.count(2), s);
            Check.refused("8: slots", x, Call.season(1, 0), Call.season(1, 4), Call.season(1, -1),
                Call.season(1, 6), Call.season(1, MIN), Call.season(1, MAX), Call.season(3, 0));
            Check.due("8: still slots of one evening", x.count(2), s);
        }
    }

    /** Terms 1: "e times s is at most 6". */
    private static void slotsInAll() {
        SeasonOfHours x = new SeasonOfHours();
        for (int i = 0; i < 8; i++) {
            int e = i / 3 + 1;
            int s = i % 3 + 1;
            Check.yes("8: " + e + " times " + s, x.season(e, s));
            Check.due("8: slots in all", x.count(2), e * s);
            // Nine are too many, and so is what wraps round to 0, 1, 4 or 6.
            Check.refused("8: too many", x, Call.season(3, 3), Call.season(65536, 65536), Call.season(MIN, 2),
                Call.season(2, MIN), Call.season(-1, -1), Call.season(-2, -3), Call.season(3, -1431655764),
                Call.season(MAX, MAX), Call.season(MIN, MIN));
            Check.due("8: slots in all stay", x.count(2), e * s);
            Check.due("8: the last slot", Check.at(x, e * s - 1, 0), NONE);
            Check.refused("8: behind the last", x, Call.at(e * s, 0));
        }
    }

    /** 8: "THE PROGRAMME is nobody then"; a refused season() keeps it. */
    private static void seasonEmptiesProgramme() {
        int[][] shapes = {{1, 1}, {1, 3}, {3, 1}, {2, 2}, {2, 3}, {3, 2}};
        for (int[] from : shapes) {
            for (int[] to : shapes) {
                SeasonOfHours x = Seasons.liking(4, 1, 5);
                x.season(from[0], from[1]);
                int slots = from[0] * from[1];
                for (int slot = 0; slot < slots; slot++) {
                    x.put(slot, 0, 0);
                }
                Check.refused("8: refused", x, Call.season(3, 3), Call.season(0, 1), Call.season(1, 4));
                Check.due("8: a refused one keeps the programme", x.count(3), slots);
                Check.due("8: and its worth", x.count(4), 4 * slots);
                Check.yes("8: taken", x.season(to[0], to[1]));
                Check.due("8: nobody then", x.count(3), 0);
                Check.due("8: no worth", x.count(4), 0);
                x.season(2, 3);
                Check.due("8: nobody comes back", x.count(3), 0);
            }
        }
    }

    /** 9: "How many NOTES two MODES share. NONE: none such". */
    private static void nearBounds() {
        SeasonOfHours x = new SeasonOfHours();
        Check.refused("9: no modes", x, Call.near(0, 0), Call.near(0, 1), Call.near(-1, -1));
        x.mode(4095, 0);
        Check.due("9: one mode with itself", x.near(0, 0), 12);
        Check.refused("9: one mode", x, Call.near(0, 1), Call.near(1, 0), Call.near(1, 1));
        for (int i = 1; i < 6; i++) {
            x.mode(i == 5 ? 0 : 4095 >> i, 0);
        }
        Check.due("9: the least", x.near(0, 5), 0);
        Check.due("9: the other way round", x.near(5, 0), 0);
        Check.due("9: all but one", x.near(0, 1), 11);
        Check.refused("9: six modes", x, Call.near(6, 0), Call.near(0, 6), Call.near(-1, 0), Call.near(0, -1),
            Call.near(MIN, 0), Call.near(0, MIN), Call.near(MAX, 0), Call.near(0, MAX), Call.near(6, 6),
            Call.near(MIN, MAX));
    }

    /** 10: "NONE for another what". */
    private static void countBounds() {
        for (SeasonOfHours x : List.of(new SeasonOfHours(), Seasons.some(), Seasons.full())) {
            Check.refused("10: another what", x, Call.count(-1), Call.count(7), Call.count(8), Call.count(MIN),
                Call.count(MAX));
            for (int what = 0; what <= 6; what++) {
                Check.yes("10: count(" + what + ")", x.count(what) >= 0);
            }
        }
    }

    /** 10: each count at the most that it can be. */
    private static void countsOfFull() {
        SeasonOfHours x = Seasons.liking(100, 6, 9, 9, 9, 9, 9, 9);
        x.season(3, 2);
        for (int slot = 0; slot < 6; slot++) {
            Check.due("10: slots filled", x.count(3), slot);
            Check.due("10: their worth", x.count(4), 100 * slot);
            x.put(slot, slot, slot);
        }
        for (int i = 0; i < 10; i++) {
            Check.due("10: pieces", x.count(5), i);
            x.piece(0, 30, 100, i == 9);
        }
        Check.due("10: no row yet", x.count(6), 0);
        x.row(0, 300);
        int[] most = {6, 6, 6, 6, 600, 10, 10};
        for (int what = 0; what <= 6; what++) {
            Check.due("10: the most of count(" + what + ")", x.count(what), most[what]);
        }
        x.put(5, NONE, 0);
        Check.due("10: one slot less", x.count(3), 5);
        Check.due("10: and its liking", x.count(4), 500);
    }

    /** A refused call that names what comes only later leaves nothing for it. */
    private static void refusedAheadOfTheirTime() {
        SeasonOfHours x = new SeasonOfHours();
        Check.refused("ahead of its time", x, Call.like(0, 0, 50), Call.rival(0, 1, true), Call.ill(0, true),
            Call.put(0, 0, 0), Call.vote(0, 0), Call.kin(0, 0, true), Call.piece(0, 1, 9, true), Call.played(0, 0));
        x.mode(1, 15);
        Check.refused("ahead of the artist", x, Call.like(0, 0, 50), Call.put(0, 0, 0));
        x.artist(5);
        x.artist(5);
        Check.due("no liking is left", x.best(), 0);
        x.season(1, 2);
        x.mode(2, 15);
        x.like(0, 0, 1);
        x.like(1, 1, 1);
        Check.due("nobody is ill or a rival", x.best(), 2);
        Check.due("no vote is left", x.points(0), 0);
        Check.due("no row either", x.vote(0, 0), 1);
        Check.due("no kin is left", x.points(0), 6);
        Check.due("no piece is left", x.count(5), 0);
        x.piece(0, 1, 9, true);
        Check.due("it was not played", x.row(0, 1), 9);
    }
}
