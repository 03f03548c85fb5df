/** The promises 1 to 23, one by one: ordinary inputs, the edges that the document names, wrong inputs. */
public final class PromisesTest {
    private static final int NONE = SeasonOfHours.NONE;
    private static final int MIN = Integer.MIN_VALUE;
    private static final int MAX = Integer.MAX_VALUE;

    public static void main(String[] args) {
        newObject();
        mode();
        artist();
        like();
        rival();
        ill();
        set();
        season();
        near();
        count();
        put();
        at();
        wrongByItself();
        wrongInEvening();
        wrongOrder();
        bestOrdinary();
        bestTies();
        bestNeverEmptyHanded();
        bestAcrossEvenings();
        mend();
        mendTies();
        piece();
        played();
        rowOrdinary();
        rowTies();
        rowEdges();
        told();
        vote();
        kin();
        points();
        prize();
        Check.end();
    }

    private static void newObject() {
        SeasonOfHours x = new SeasonOfHours();
        int[] counts = {0, 0, 1, 0, 0, 0, 0};
        for (int what = 0; what < counts.length; what++) {
            Check.due("1: count(" + what + ")", x.count(what), counts[what]);
        }
        Seasons.slots("1", x, NONE, NONE);
        Check.due("1: wrong", x.wrong(), 0);
        Check.due("1: best", x.best(), 0);
        Check.due("1: mend", x.mend(), 0);
        Check.due("1: row", x.row(0, 300), NONE);
        Check.due("1: told", x.told(0), NONE);
        Check.due("1: points", x.points(0), NONE);
        Check.due("1: prize", x.prize(0), NONE);
        Check.due("1: LIMIT at first", x.set(0, 12), 12);
        Check.due("1: REST at first", x.set(1, 7), 7);
        SeasonOfHours other = new SeasonOfHours();
        other.mode(1, 1);
        Check.due("1: objects are apart", x.count(0), 0);
    }

    private static void mode() {
        SeasonOfHours x = new SeasonOfHours();
        int[][] refused = {{-1, 0}, {4096, 0}, {0, -1}, {0, 16}, {MIN, 0}, {MAX, 0}, {0, MIN}, {0, MAX}};
        for (int[] r : refused) {
            Check.due("2: mode(" + r[0] + ", " + r[1] + ")", x.mode(r[0], r[1]), NONE);
        }
        Check.due("2: refused ones leave no mode", x.count(0), 0);
        Check.due("2: mode(0, 0)", x.mode(0, 0), 0);
        Check.due("2: mode(4095, 15)", x.mode(4095, 15), 1);
        for (int i = 2; i < 6; i++) {
            Check.due("2: mode " + i, x.mode(7, 1), i);
        }
        Check.due("2: a seventh", x.mode(7, 1), NONE);
        Check.due("2: six are there", x.count(0), 6);
        Check.due("2: the first kept its notes", x.near(0, 1), 0);
        Check.due("2: the second kept its notes", x.near(1, 1), 12);
    }

    private static void artist() {
        SeasonOfHours x = new SeasonOfHours();
        for (int rank : new int[] {0, 10, -1, MIN, MAX}) {
            Check.due("3: artist(" + rank + ")", x.artist(rank), NONE);
        }
        Check.due("3: none is there", x.count(1), 0);
        int[] ranks = {1, 9, 5, 5, 2, 8};
        for (int i = 0; i < 6; i++) {
            Check.due("3: artist(" + ranks[i] + ")", x.artist(ranks[i]), i);
        }
        Check.due("3: a seventh", x.artist(5), NONE);
        Check.due("3: six are there", x.count(1), 6);
    }

    private static void like() {
        SeasonOfHours x = Seasons.withArtists(2, 5);
        int[][] refused = {{-1, 0, 1}, {1, 0, 1}, {0, -1, 1}, {0, 2, 1}, {0, 0, -1}, {0, 0, 101}, {MAX, 0, 1},
            {MIN, 0, 1}, {0, MAX, 1}, {0, MIN, 1}, {0, 0, MAX}, {0, 0, MIN}};
        for (int[] r : refused) {
            Check.no("4: like(" + r[0] + ", " + r[1] + ", " + r[2] + ")", x.like(r[0], r[1], r[2]));
        }
        Check.due("4: at first nothing is liked", x.best(), 0);
        Check.yes("4: like 100", x.like(0, 1, 100));
        Check.due("4: now it is", x.best(), 100);
        Seasons.slots("4", x, 0, 1);
        Check.yes("4: like 0", x.like(0, 1, 0));
        Check.due("4: a liking of 0 is not played", x.wrong(), 30);
        Check.due("4: nor is it best", x.best(), 0);
        Seasons.slots("4", x, NONE, NONE);
        Check.yes("4: like 1", x.like(0, 0, 1));
        Check.due("4: 1 is played", x.best(), 1);
    }

    private static void rival() {
        SeasonOfHours x = Seasons.withArtists(2, 5, 5, 5);
        int[][] refused = {{0, 0}, {2, 2}, {-1, 0}, {0, -1}, {3, 0}, {0, 3}, {MAX, 0}, {0, MIN}, {-1, -1}};
        for (int[] r : refused) {
            Check.no("5: rival(" + r[0] + ", " + r[1] + ")", x.rival(r[0], r[1], true));
        }
        x.season(1, 2);
        x.like(0, 0, 5);
        x.like(1, 1, 5);
        x.put(0, 0, 0);
        x.put(1, 1, 1);
        Check.due("5: no rivals at first", x.wrong(), 0);
        Check.yes("5: rivals", x.rival(0, 1, true));
        Check.due("5: rivals in one evening", x.wrong(), 71);
        Check.due("5: best with rivals", x.best(), 5);
        Check.yes("5: other way round", x.rival(1, 0, false));
        Check.due("5: no rivals any more", x.best(), 10);
        x.rival(1, 0, true);
        Check.due("5: both ways", x.wrong(), 71);
        x.rival(1, 2, true);
        x.rival(0, 1, false);
        Check.due("5: other rivals do not matter", x.wrong(), 0);
    }

    private static void ill() {
        SeasonOfHours x = Seasons.withArtists(1, 5, 6);
        for (int artist : new int[] {-1, 2, MIN, MAX}) {
            Check.no("6: ill(" + artist + ")", x.ill(artist, true));
        }
        x.like(0, 0, 9);
        x.like(1, 0, 4);
        Check.due("6: well", x.best(), 9);
        Check.yes("6: ill", x.ill(0, true));
        Check.due("6: the programme stays", x.at(0, 0), 0);
        Check.due("6: it is wrong now", x.wrong(), 10);
        Check.due("6: best without", x.best(), 4);
        Check.yes("6: ill again", x.ill(0, true));
        Check.yes("6: well again", x.ill(0, false));
        Check.due("6: best with", x.best(), 9);
        Check.yes("6: well twice", x.ill(1, false));
        Check.due("6: still", x.best(), 9);
    }

    private static void set() {
        SeasonOfHours x = new SeasonOfHours();
        int[][] refused = {{0, -1}, {0, 13}, {1, -1}, {1, 31}, {2, 0}, {-1, 0}, {0, MIN}, {1, MAX}, {MIN, 5}, {MAX, 5}};
        for (int[] r : refused) {
            Check.due("7: set(" + r[0] + ", " + r[1] + ")", x.set(r[0], r[1]), NONE);
        }
        Check.due("7: set(0, 0)", x.set(0, 0), 12);
        Check.due("7: set(0, 12)", x.set(0, 12), 0);
        Check.due("7: set(0, 4)", x.set(0, 4), 12);
        Check.due("7: set(1, 30)", x.set(1, 30), 7);
        Check.due("7: set(1, 0)", x.set(1, 0), 30);
        Check.due("7: set(1, 13)", x.set(1, 13), 0);
        Check.due("7: LIMIT stayed", x.set(0, 5), 4);
    }

    private static void season() {
        for (int e = -1; e <= 7; e++) {
            for (int s = -1; s <= 7; s++) {
                boolean good = e >= 1 && e <= 3 && s >= 1 && s <= 3 && e * s <= 6;
                SeasonOfHours x = new SeasonOfHours();
                Check.due("8: season(" + e + ", " + s + ")", x.season(e, s) ? 1 : 0, good ? 1 : 0);
                Check.due("8: its slots", x.count(2), good ? e * s : 1);
            }
        }
        SeasonOfHours x = Seasons.withArtists(1, 5);
        x.like(0, 0, 7);
        Check.no("8: a product that wraps", x.season(65536, 65536));
        Check.no("8: least", x.season(MIN, 1));
        Check.no("8: most", x.season(1, MAX));
        x.best();
        Check.no("8: refused", x.season(3, 3));
        Check.due("8: a refused one keeps the programme", x.count(4), 7);
        Check.yes("8: the same again", x.season(1, 1));
        Check.due("8: the programme is nobody", x.count(3), 0);
        x.season(2, 3);
        for (int i = 0; i < 6; i++) {
            x.put(i, 0, 0);
        }
        x.season(1, 2);
        x.season(2, 3);
        Check.due("8: nothing comes back", x.count(3), 0);
        hoursOfSeason();
    }

    private static void hoursOfSeason() {
        SeasonOfHours x = new SeasonOfHours();
        x.mode(1, 2);
        x.artist(1);
        x.like(0, 0, 3);
        x.season(3, 2);
        int[] due = {40, 0, 42, 0, 44, 0};
        for (int slot = 0; slot < 6; slot++) {
            x.put(slot, 0, 0);
            Check.due("8: hour of slot " + slot + " of 3 times 2", x.wrong(), due[slot]);
            x.put(slot, NONE, 0);
        }
        x.season(2, 3);
        int[] dueOfThree = {40, 0, 42, 43, 0, 45};
        for (int slot = 0; slot < 6; slot++) {
            x.put(slot, 0, 0);
            Check.due("8: hour of slot " + slot + " of 2 times 3", x.wrong(), dueOfThree[slot]);
            x.put(slot, NONE, 0);
        }
    }

    private static void near() {
        SeasonOfHours x = new SeasonOfHours();
        Check.due("9: no modes", x.near(0, 0), NONE);
        x.mode(4095, 0);
        x.mode(0b101010101010, 0);
        x.mode(0b000000001111, 0);
        Check.due("9: near(0, 1)", x.near(0, 1), 6);
        Check.due("9: near(1, 2)", x.near(1, 2), 2);
        Check.due("9: near(2, 1)", x.near(2, 1), 2);
        Check.due("9: near(0, 0)", x.near(0, 0), 12);
        Check.due("9: near(2, 2)", x.near(2, 2), 4);
        int[][] refused = {{-1, 0}, {0, -1}, {3, 0}, {0, 3}, {MIN, 0}, {0, MAX}};
        for (int[] r : refused) {
            Check.due("9: near(" + r[0] + ", " + r[1] + ")", x.near(r[0], r[1]), NONE);
        }
    }

    private static void count() {
        SeasonOfHours x = Seasons.withArtists(3, 5, 5);
        x.season(2, 2);
        x.like(0, 0, 30);
        x.like(1, 2, 4);
        x.put(0, 0, 0);
        x.put(3, 1, 2);
        x.put(2, 0, 0);
        x.piece(0, 10, 5, true);
        x.piece(1, 10, 6, false);
        x.row(0, 20);
        int[] counts = {3, 2, 4, 3, 64, 2, 2};
        for (int what = 0; what < counts.length; what++) {
            Check.due("10: count(" + what + ")", x.count(what), counts[what]);
        }
        for (int what : new int[] {-1, 7, MIN, MAX}) {
            Check.due("10: count(" + what + ")", x.count(what), NONE);
        }
        x.like(0, 0, 1);
        Check.due("10: WORTH goes by the likings of now", x.count(4), 6);
        x.like(0, 0, 0);
        Check.due("10: one that does not play it is somebody", x.count(3), 3);
        Check.due("10: and adds nothing", x.count(4), 4);
    }

    private static void put() {
        SeasonOfHours x = Seasons.withArtists(2, 5, 5);
        x.season(1, 2);
        int[][] refused = {{-1, 0, 0}, {2, 0, 0}, {0, 2, 0}, {0, -2, 0}, {0, 0, 2}, {0, 0, -1}, {-1, NONE, 0},
            {2, NONE, 0}, {MIN, 0, 0}, {MAX, 0, 0}, {0, MIN, 0}, {0, MAX, 0}, {0, 0, MIN}, {0, 0, MAX}};
        x.put(0, 1, 1);
        for (int[] r : refused) {
            Check.no("11: put(" + r[0] + ", " + r[1] + ", " + r[2] + ")", x.put(r[0], r[1], r[2]));
        }
        Seasons.slots("11", x, 1, 1, NONE, NONE);
        Check.yes("11: what is not good", x.put(1, 1, 1));
        Seasons.slots("11", x, 1, 1, 1, 1);
        Check.yes("11: another", x.put(1, 0, 1));
        Seasons.slots("11", x, 1, 1, 0, 1);
        for (int mode : new int[] {0, -1, 2, 99, MIN, MAX}) {
            x.put(0, 1, 1);
            Check.yes("11: nobody, mode " + mode, x.put(0, NONE, mode));
            Seasons.slots("11", x, NONE, NONE, 0, 1);
        }
        x.ill(0, true);
        x.like(0, 1, 0);
        x.set(0, 0);
        Seasons.slots("11: stays as told", x, NONE, NONE, 0, 1);
    }

    private static void at() {
        SeasonOfHours x = Seasons.withArtists(3, 5, 5);
        x.season(1, 3);
        x.put(1, 1, 2);
        int[][] none = {{-1, 0}, {3, 0}, {0, 2}, {0, -1}, {3, 1}, {1, MAX}, {1, MIN}, {MIN, 0}, {MAX, 1}, {9, 9}};
        for (int[] r : none) {
            Check.due("12: at(" + r[0] + ", " + r[1] + ")", Check.at(x, r[0], r[1]), Check.THREW);
        }
        Seasons.slots("12", x, NONE, NONE, 1, 2, NONE, NONE);
        x.season(1, 1);
        Check.due("12: a slot that is gone", Check.at(x, 1, 0), Check.THREW);
    }

    private static void wrongByItself() {
        SeasonOfHours x = new SeasonOfHours();
        x.mode(1, 1);
        x.mode(2, 8);
        x.artist(5);
        x.artist(5);
        x.season(3, 1);
        x.like(0, 0, 1);
        x.like(0, 1, 1);
        x.put(2, 0, 0);
        Check.due("13: good", x.wrong(), 0);
        x.put(2, 1, 0);
        Check.due("13: does not play it", x.wrong(), 32);
        x.put(2, 0, 1);
        Check.due("13: not of this hour", x.wrong(), 42);
        x.put(2, 0, 0);
        x.put(0, 0, 0);
        Check.due("13: in two evenings", x.wrong(), 22);
        x.put(1, 0, 0);
        Check.due("13: the first slot for which it is so", x.wrong(), 21);
        x.ill(0, true);
        Check.due("13: ill", x.wrong(), 10);
        x.put(0, NONE, 0);
        Check.due("13: ill at the first that has it", x.wrong(), 11);
    }

    private static void wrongInEvening() {
        SeasonOfHours x = Seasons.withArtists(4, 5, 5, 6, 4);
        x.season(2, 3);
        for (int i = 0; i < 16; i++) {
            x.like(i / 4, i % 4, 1);
        }
        x.put(0, 0, 0);
        x.put(3, 1, 0);
        Check.due("13: a mode in two evenings", x.wrong(), 0);
        x.put(5, 2, 0);
        Check.due("13: a mode twice in one, with a gap", x.wrong(), 55);
        x.put(5, 2, 1);
        Check.due("13: greater rank later", x.wrong(), 0);
        x.put(5, 3, 1);
        Check.due("13: less rank later", x.wrong(), 65);
        x.put(5, NONE, 0);
        x.put(2, 3, 1);
        Check.due("13: less rank later in the first", x.wrong(), 62);
        x.put(2, NONE, 0);
        x.put(3, 3, 1);
        Check.due("13: less rank in another evening", x.wrong(), 0);
        x.rival(0, 3, true);
        Check.due("13: rivals in two evenings", x.wrong(), 0);
        x.put(3, NONE, 0);
        x.put(0, 3, 1);
        x.put(2, 0, 0);
        Check.due("13: rivals in one, with a gap", x.wrong(), 72);
        tooNear();
    }

    private static void tooNear() {
        SeasonOfHours x = new SeasonOfHours();
        x.mode(0b0111, 15);
        x.mode(0b0011, 15);
        x.mode(0b1000, 15);
        for (int i = 0; i < 3; i++) {
            x.artist(5);
        }
        for (int i = 0; i < 9; i++) {
            x.like(i / 3, i % 3, 1);
        }
        x.season(1, 3);
        x.put(0, 0, 0);
        x.put(2, 1, 1);
        x.set(0, 2);
        Check.due("13: as near as LIMIT", x.wrong(), 0);
        x.set(0, 1);
        Check.due("13: above LIMIT, nobody between", x.wrong(), 82);
        x.put(1, 2, 2);
        Check.due("13: somebody between", x.wrong(), 0);
        x.season(3, 1);
        x.put(0, 0, 0);
        x.put(1, 1, 1);
        Check.due("13: near in two evenings", x.wrong(), 0);
    }

    private static void wrongOrder() {
        SeasonOfHours x = new SeasonOfHours();
        x.mode(1, 1);
        x.mode(1, 2);
        x.artist(5);
        x.artist(4);
        x.season(1, 3);
        x.set(0, 0);
        x.rival(0, 1, true);
        x.put(0, 0, 1);
        x.put(1, 1, 1);
        x.put(2, 1, 1);
        x.ill(1, true);
        Check.due("13: reason 0 ahead of all", x.wrong(), 11);
        x.ill(1, false);
        Check.due("13: then 1", x.wrong(), 22);
        x.put(2, NONE, 0);
        Check.due("13: then 2", x.wrong(), 30);
        x.like(0, 1, 1);
        Check.due("13: 2 of another slot", x.wrong(), 31);
        x.like(1, 1, 1);
        Check.due("13: then 3", x.wrong(), 40);
        x.like(0, 0, 1);
        x.put(0, 0, 0);
        Check.due("13: 4 is past, then 5", x.wrong(), 61);
        x.season(1, 2);
        x.put(0, 1, 0);
        x.like(1, 0, 1);
        x.put(1, 0, 1);
        Check.due("13: then 6", x.wrong(), 71);
        x.rival(0, 1, false);
        Check.due("13: then 7", x.wrong(), 81);
        x.set(0, 1);
        Check.due("13: good", x.wrong(), 0);
        modeTwiceAheadOfRank();
    }

    private static void modeTwiceAheadOfRank() {
        SeasonOfHours x = Seasons.withArtists(1, 5, 4);
        x.season(1, 2);
        x.like(0, 0, 1);
        x.like(1, 0, 1);
        x.put(0, 0, 0);
        x.put(1, 1, 0);
        Check.due("13: 4 ahead of 5", x.wrong(), 51);
    }

    private static void bestOrdinary() {
        SeasonOfHours x = Seasons.withArtists(2, 5, 4);
        x.season(1, 2);
        x.like(0, 0, 50);
        x.like(1, 1, 40);
        Check.due("14: the less rank first", x.best(), 90);
        Seasons.slots("14", x, 1, 1, 0, 0);
        Check.due("14: good", x.wrong(), 0);
        x.like(1, 1, 0);
        x.like(1, 0, 60);
        Check.due("14: a mode once", x.best(), 60);
        Seasons.slots("14", x, 1, 0, NONE, NONE);
        x.season(2, 1);
        Check.due("14: a mode in two evenings", x.best(), 110);
        Seasons.slots("14", x, 0, 0, 1, 0);
        x.ill(0, true);
        Check.due("14: without the ill one", x.best(), 60);
        Seasons.slots("14", x, 1, 0, NONE, NONE);
    }

    private static void bestTies() {
        SeasonOfHours x = Seasons.withArtists(2, 5, 5);
        x.season(1, 3);
        for (int i = 0; i < 4; i++) {
            x.like(i / 2, i % 2, 8);
        }
        Check.due("14: all alike", x.best(), 16);
        Seasons.slots("14: less artist, then less mode, nobody last", x, 0, 0, 1, 1, NONE, NONE);
        x.like(0, 0, 0);
        Check.due("14: still", x.best(), 16);
        Seasons.slots("14: artist goes ahead of mode", x, 0, 1, 1, 0, NONE, NONE);
        x.like(1, 0, 0);
        Check.due("14: one mode left", x.best(), 8);
        Seasons.slots("14: nobody is greater than all", x, 0, 1, NONE, NONE, NONE, NONE);
    }

    private static void bestNeverEmptyHanded() {
        SeasonOfHours x = Seasons.withArtists(1, 5);
        x.season(1, 2);
        x.put(0, 0, 0);
        x.put(1, 0, 0);
        Check.due("14: nobody plays anything", x.best(), 0);
        Check.due("14: nobody is there", x.count(3), 0);
        x.like(0, 0, 100);
        x.put(1, 0, 0);
        Check.due("14: whatever was told ahead", x.best(), 100);
        Seasons.slots("14", x, 0, 0, NONE, NONE);
        x.like(0, 0, 0);
        x.season(2, 3);
        Check.due("14: six slots of nobody", x.best(), 0);
        Seasons.slots("14", x, NONE, NONE, NONE, NONE, NONE, NONE, NONE, NONE, NONE, NONE, NONE, NONE);
    }

    private static void bestAcrossEvenings() {
        SeasonOfHours x = Seasons.withArtists(6, 9, 9, 9, 9, 9, 9);
        x.season(2, 3);
        for (int i = 0; i < 36; i++) {
            x.like(i / 6, i % 6, 100);
        }
        Check.due("14: the greatest worth", x.best(), 600);
        Seasons.slots("14", x, 0, 0, 1, 1, 2, 2, 3, 0, 4, 1, 5, 2);
        x.season(3, 2);
        Check.due("14: in three evenings", x.best(), 600);
        Seasons.slots("14", x, 0, 0, 1, 1, 2, 0, 3, 1, 4, 0, 5, 1);
        x.rival(0, 1, true);
        x.rival(2, 3, true);
        Check.due("14: with rivals", x.best(), 600);
        Seasons.slots("14", x, 0, 0, 2, 1, 1, 0, 3, 1, 4, 0, 5, 1);
        x.set(0, 0);
        Check.due("14: modes that share nothing", x.best(), 600);
    }

    private static void mend() {
        SeasonOfHours x = Seasons.withArtists(3, 3, 5, 7);
        x.season(1, 3);
        for (int i = 0; i < 9; i++) {
            x.like(i / 3, i % 3, 10 + i);
        }
        x.put(1, 1, 0);
        Check.due("15: a good one stays", x.mend(), 0);
        Seasons.slots("15", x, NONE, NONE, 1, 0, NONE, NONE);
        x.ill(1, true);
        Check.due("15: one slot", x.mend(), 1);
        Seasons.slots("15: of most worth", x, NONE, NONE, 2, 2, NONE, NONE);
        x.ill(1, false);
        x.put(0, 2, 0);
        x.put(1, 2, 0);
        x.put(2, 2, 0);
        Check.due("15: thrice the same", x.mend(), 2);
        Seasons.slots("15: of equal worth the less mode first", x, 0, 1, 1, 2, 2, 0);
        Check.due("15: good now", x.wrong(), 0);
        x.like(1, 2, 0);
        Check.due("15: another mode of it would clash", x.mend(), 1);
        Seasons.slots("15", x, 0, 1, NONE, NONE, 2, 0);
    }

    private static void mendTies() {
        SeasonOfHours x = Seasons.withArtists(2, 5, 5);
        x.season(1, 2);
        x.like(0, 0, 5);
        x.like(1, 0, 5);
        x.put(0, 1, 0);
        x.put(1, 1, 0);
        Check.due("15: either slot", x.mend(), 1);
        Seasons.slots("15: the less artist first, nobody last", x, 1, 0, NONE, NONE);
        x.like(0, 1, 90);
        x.like(1, 1, 1);
        x.put(0, 1, 1);
        x.put(1, 1, 0);
        Check.due("15: fewest changes ahead of worth", x.mend(), 1);
        Seasons.slots("15: then worth", x, 0, 1, 1, 0);
        SeasonOfHours y = Seasons.withArtists(1, 5);
        y.put(0, 0, 0);
        Check.due("15: nobody can come", y.mend(), 1);
        Seasons.slots("15", y, NONE, NONE);
        Check.due("15: nobody is good", y.mend(), 0);
    }

    private static void piece() {
        SeasonOfHours x = Seasons.withModes(2);
        int[][] refused = {{-1, 1, 1}, {2, 1, 1}, {0, 0, 1}, {0, 91, 1}, {0, 1, -1}, {0, 1, 101}, {MIN, 1, 1},
            {MAX, 1, 1}, {0, MIN, 1}, {0, MAX, 1}, {0, 1, MIN}, {0, 1, MAX}};
        for (int[] r : refused) {
            Check.due("16: piece(" + r[0] + ", " + r[1] + ", " + r[2] + ")", x.piece(r[0], r[1], r[2], true), NONE);
        }
        Check.due("16: none is there", x.count(5), 0);
        Check.due("16: least", x.piece(0, 1, 0, true), 0);
        Check.due("16: most", x.piece(1, 90, 100, false), 1);
        for (int i = 2; i < 10; i++) {
            Check.due("16: piece " + i, x.piece(0, 5, 5, false), i);
        }
        Check.due("16: an eleventh", x.piece(0, 5, 5, false), NONE);
        Check.due("16: ten are there", x.count(5), 10);
        Check.due("16: all in one row", x.row(0, 300), 140);
        Seasons.rowIs("16", x, 0, 1, 2, 3, 4, 5, 6, 7, 8, 9);
    }

    private static void played() {
        SeasonOfHours x = Seasons.withModes(1);
        x.piece(0, 10, 9, true);
        int[][] refused = {{-1, 0}, {1, 0}, {0, -1}, {0, 401}, {MIN, 0}, {MAX, 0}, {0, MIN}, {0, MAX}};
        for (int[] r : refused) {
            Check.no("17: played(" + r[0] + ", " + r[1] + ")", x.played(r[0], r[1]));
        }
        Check.due("17: not played", x.row(0, 10), 9);
        Check.yes("17: on the first day", x.played(0, 0));
        Check.due("17: same day", x.row(0, 10), NONE);
        Check.due("17: REST less 1 later", x.row(6, 10), NONE);
        Check.due("17: REST later", x.row(7, 10), 9);
        Check.yes("17: on the last day", x.played(0, 400));
        Check.due("17: no longer on the first", x.row(0, 10), 9);
        Check.due("17: REST less 1 ahead", x.row(394, 10), NONE);
        Check.due("17: REST ahead", x.row(393, 10), 9);
        Check.yes("17: a day ahead of the one told", x.played(0, 200));
        Check.due("17: what was told last counts", x.row(400, 10), 9);
        Check.due("17: around it", x.row(201, 10), NONE);
        x.set(1, 0);
        Check.due("17: no REST", x.row(200, 10), 9);
        x.set(1, 30);
        Check.due("17: REST of 30", x.row(229, 10), NONE);
        Check.due("17: over", x.row(230, 10), 9);
    }

    private static void rowOrdinary() {
        SeasonOfHours x = Seasons.withModes(3);
        x.piece(0, 30, 10, true);
        x.piece(1, 30, 50, true);
        x.piece(2, 20, 30, false);
        x.piece(2, 20, 25, false);
        Check.due("18: one main only", x.row(0, 300), 105);
        Seasons.rowIs("18", x, 1, 2, 3);
        Check.due("18: within its minutes", x.row(0, 70), 105);
        Check.due("18: one minute less", x.row(0, 69), 80);
        Seasons.rowIs("18", x, 1, 2);
        Check.due("18: main alone", x.row(0, 30), 50);
        Seasons.rowIs("18", x, 1);
        Check.due("18: no main has room", x.row(0, 29), NONE);
        Seasons.rowIs("18: the latest stays", x, 1);
        x.set(0, 1);
        Check.due("18: a mode beside itself is too near", x.row(0, 300), 105);
        Seasons.rowIs("18: so the main parts them", x, 2, 1, 3);
        x.played(1, 3);
        Check.due("18: the other main", x.row(0, 300), 65);
        Seasons.rowIs("18", x, 2, 0, 3);
        x.played(0, 3);
        Check.due("18: none without a main", x.row(0, 300), NONE);
    }

    private static void rowTies() {
        SeasonOfHours x = Seasons.withModes(2);
        x.piece(0, 10, 0, false);
        x.piece(0, 10, 4, false);
        x.piece(0, 10, 2, false);
        x.piece(0, 10, 2, false);
        x.piece(0, 10, 1, true);
        Check.due("18: a liking of 0 is not needed", x.row(0, 300), 9);
        Seasons.rowIs("18: the first row", x, 1, 2, 3, 4);
        Check.due("18: of equal ones the fewest", x.row(0, 20), 5);
        Seasons.rowIs("18", x, 1, 4);
        x.played(1, 0);
        Check.due("18: of equal ones the first", x.row(0, 20), 3);
        Seasons.rowIs("18", x, 2, 4);
        fewestAheadOfFirst();
    }

    private static void fewestAheadOfFirst() {
        SeasonOfHours x = Seasons.withModes(1);
        x.piece(0, 10, 2, false);
        x.piece(0, 10, 2, false);
        x.piece(0, 20, 4, false);
        x.piece(0, 10, 1, true);
        Check.due("18: fewest ahead of the first row", x.row(0, 30), 5);
        Seasons.rowIs("18", x, 2, 3);
        x.piece(0, 10, 1, true);
        Check.due("18: with another main too", x.row(0, 30), 5);
        Seasons.rowIs("18", x, 2, 3);
        SeasonOfHours y = Seasons.withModes(1);
        y.piece(0, 10, 0, true);
        y.piece(0, 10, 0, true);
        Check.due("18: a sum of 0 is a row", y.row(0, 10), 0);
        Seasons.rowIs("18", y, 0);
    }

    private static void rowEdges() {
        SeasonOfHours x = Seasons.withModes(1);
        x.piece(0, 1, 7, true);
        int[][] refused = {{-1, 10}, {401, 10}, {0, 0}, {0, 301}, {0, -1}, {MIN, 10}, {MAX, 10}, {0, MIN}, {0, MAX}};
        for (int[] r : refused) {
            Check.due("18: row(" + r[0] + ", " + r[1] + ")", x.row(r[0], r[1]), NONE);
        }
        Check.due("18: no row yet", x.count(6), 0);
        Check.due("18: row(400, 300)", x.row(400, 300), 7);
        Check.due("18: row(0, 1)", x.row(0, 1), 7);
        Check.due("18: row does not play", x.row(0, 1), 7);
        SeasonOfHours y = new SeasonOfHours();
        y.mode(0b0011, 0);
        y.mode(0b0110, 0);
        y.mode(0b1100, 0);
        y.piece(0, 1, 5, true);
        y.piece(1, 1, 5, false);
        y.piece(2, 1, 5, false);
        y.set(0, 1);
        Check.due("18: as near as LIMIT", y.row(0, 9), 15);
        Seasons.rowIs("18", y, 0, 1, 2);
        y.set(0, 0);
        Check.due("18: above LIMIT", y.row(0, 9), 10);
        Seasons.rowIs("18", y, 0, 2);
        Check.due("18: refused", y.row(401, 9), NONE);
        Seasons.rowIs("18: refused ones keep the latest", y, 0, 2);
    }

    private static void told() {
        SeasonOfHours x = Seasons.withModes(1);
        x.piece(0, 9, 1, false);
        x.piece(0, 9, 2, true);
        x.piece(0, 9, 3, false);
        Check.due("19: no row", x.told(0), NONE);
        x.row(0, 27);
        Seasons.rowIs("19", x, 0, 1, 2);
        for (int i : new int[] {-1, 3, 10, 11, MIN, MAX}) {
            Check.due("19: told(" + i + ")", x.told(i), NONE);
        }
        x.row(0, 9);
        Seasons.rowIs("19: a shorter one", x, 1);
        x.piece(0, 9, 3, true);
        Seasons.rowIs("19: it stays until the next row", x, 1);
    }

    private static void vote() {
        SeasonOfHours x = Seasons.withArtists(0, 1, 2, 3, 4, 5, 6);
        int[][] refused = {{-1, 0}, {7, 0}, {0, -1}, {0, 6}, {MIN, 0}, {MAX, 0}, {0, MIN}, {0, MAX}};
        for (int[] r : refused) {
            Check.due("20: vote(" + r[0] + ", " + r[1] + ")", x.vote(r[0], r[1]), NONE);
        }
        for (int i = 0; i < 6; i++) {
            Check.due("20: vote(6, " + (5 - i) + ")", x.vote(6, 5 - i), i + 1);
            Check.due("20: once only", x.vote(6, 5 - i), NONE);
        }
        for (int i = 0; i < 6; i++) {
            Check.due("20: points of " + i, x.points(i), i + 1);
        }
        Check.due("20: another judge", x.vote(0, 5), 1);
        x.kin(1, 3, true);
        Check.due("20: kin can be told", x.vote(1, 3), 1);
        Check.due("20: and stand in the row", x.vote(1, 4), 2);
    }

    private static void kin() {
        SeasonOfHours x = Seasons.withArtists(0, 5, 5, 5);
        int[][] refused = {{-1, 0}, {7, 0}, {0, -1}, {0, 3}, {MIN, 0}, {MAX, 0}, {0, MIN}, {0, MAX}};
        for (int[] r : refused) {
            Check.no("21: kin(" + r[0] + ", " + r[1] + ")", x.kin(r[0], r[1], true));
        }
        for (int i = 0; i < 3; i++) {
            x.vote(6, i);
        }
        Check.yes("21: kin", x.kin(6, 1, true));
        Check.due("21: ahead of kin", x.points(0), 6);
        Check.due("21: kin gets nothing", x.points(1), 0);
        Check.due("21: behind kin", x.points(2), 5);
        Check.yes("21: another judge's kin", x.kin(5, 2, true));
        Check.due("21: does not matter", x.points(2), 5);
        Check.yes("21: not kin any more", x.kin(6, 1, false));
        Check.due("21: points again", x.points(1), 5);
        Check.due("21: and one less behind it", x.points(2), 4);
    }

    private static void points() {
        SeasonOfHours x = Seasons.withArtists(0, 5, 5);
        for (int artist : new int[] {-1, 2, MIN, MAX}) {
            Check.due("22: points(" + artist + ")", x.points(artist), NONE);
        }
        Check.due("22: no votes", x.points(0), 0);
        for (int judge = 0; judge < 7; judge++) {
            x.vote(judge, 1);
        }
        Check.due("22: all judges", x.points(1), 42);
        Check.due("22: not in a row", x.points(0), 0);
        x.vote(3, 0);
        Check.due("22: second of one", x.points(0), 5);
        x.kin(3, 0, true);
        x.kin(3, 1, true);
        Check.due("22: kin of one judge", x.points(1), 36);
        Check.due("22: none left", x.points(0), 0);
    }

    private static void prize() {
        SeasonOfHours x = Seasons.withArtists(0, 4, 7, 7, 2);
        int[] byRank = {1, 2, 0, 3};
        for (int i = 0; i < 4; i++) {
            Check.due("23: without votes, prize(" + i + ")", x.prize(i), byRank[i]);
        }
        for (int i : new int[] {-1, 4, MIN, MAX}) {
            Check.due("23: prize(" + i + ")", x.prize(i), NONE);
        }
        x.vote(0, 3);
        x.vote(0, 2);
        x.vote(0, 0);
        int[] byPoints = {3, 2, 0, 1};
        for (int i = 0; i < 4; i++) {
            Check.due("23: by points, prize(" + i + ")", x.prize(i), byPoints[i]);
        }
        x.vote(1, 0);
        x.kin(0, 3, true);
        int[] kinOut = {0, 2, 1, 3};
        for (int i = 0; i < 4; i++) {
            Check.due("23: with kin out, prize(" + i + ")", x.prize(i), kinOut[i]);
        }
    }
}
