/** Promises 11 to 15 and what Terms 1 says of THE PROGRAMME: each boundary, on both its sides. */
public final class ProgrammeBoundsTest {
    private static final int NONE = SeasonOfHours.NONE;
    private static final int MIN = Integer.MIN_VALUE;
    private static final int MAX = Integer.MAX_VALUE;
    private static final int[][] SHAPES = {{1, 1}, {1, 2}, {1, 3}, {2, 1}, {2, 2}, {2, 3}, {3, 1}, {3, 2}};

    public static void main(String[] args) {
        putSlots();
        putArtists();
        putModes();
        putNobody();
        programmeStaysAsTold();
        atSlots();
        atWhat();
        ill();
        inOneSlotAtMost();
        playsIt();
        ofTheHour();
        modeOnceAnEvening();
        rankNotBelow();
        noRivals();
        asNearAsLimit();
        nearTheLatestAhead();
        reasonsAtTheLastSlot();
        reasonsOneByOne();
        bestOfLeast();
        bestOfMost();
        bestWithTooFew();
        bestOfEqualWorth();
        nobodyIsGreaterThanAll();
        nobodyHasNoWorth();
        mendLeastAndMost();
        mendFewestAheadOfWorth();
        mendOfEqualWorth();
        Check.end();
    }

    /** 11: "a SLOT (its number: EVENING times s and HOUR)"; "Refused: no such SLOT". */
    private static void putSlots() {
        for (int[] shape : SHAPES) {
            int slots = shape[0] * shape[1];
            SeasonOfHours x = Seasons.liking(5, 1, 5);
            x.season(shape[0], shape[1]);
            Check.refused("11: slot", x, Call.put(-1, 0, 0), Call.put(slots, 0, 0), Call.put(6, 0, 0),
                Call.put(MIN, 0, 0), Call.put(MAX, 0, 0));
            Check.due("11: nobody is put", x.count(3), 0);
            for (int slot = 0; slot < slots; slot++) {
                Check.yes("11: slot " + slot + " of " + slots, x.put(slot, 0, 0));
                Check.due("11: one more is put", x.count(3), slot + 1);
            }
            Check.refused("11: nobody in no slot", x, Call.put(-1, NONE, 0), Call.put(slots, NONE, 0),
                Call.put(MIN, NONE, 0), Call.put(MAX, NONE, 0));
            Check.due("11: all are there", x.count(3), slots);
        }
    }

    /** 11: "Refused: no such .. ARTIST". */
    private static void putArtists() {
        SeasonOfHours x = Seasons.withArtists(1, 5, 5, 5, 5, 5, 5);
        x.put(0, 3, 0);
        Check.refused("11: artist", x, Call.put(0, 6, 0), Call.put(0, -2, 0), Call.put(0, MIN, 0),
            Call.put(0, MAX, 0));
        Seasons.slots("11: the one ahead stays", x, 3, 0);
        Check.yes("11: the last artist", x.put(0, 5, 0));
        Seasons.slots("11: the last artist", x, 5, 0);
        Check.yes("11: the first artist", x.put(0, 0, 0));
        Seasons.slots("11: the first artist", x, 0, 0);
        SeasonOfHours one = Seasons.withArtists(1, 5);
        Check.refused("11: one artist", one, Call.put(0, 1, 0), Call.put(0, 5, 0));
        Seasons.slots("11: nobody stays", one, NONE, NONE);
    }

    /** 11: "Refused: no such .. MODE". */
    private static void putModes() {
        SeasonOfHours x = Seasons.withArtists(6, 5);
        x.put(0, 0, 3);
        Check.refused("11: mode", x, Call.put(0, 0, -1), Call.put(0, 0, 6), Call.put(0, 0, MIN),
            Call.put(0, 0, MAX));
        Seasons.slots("11: the one ahead stays", x, 0, 3);
        Check.yes("11: the last mode", x.put(0, 0, 5));
        Seasons.slots("11: the last mode", x, 0, 5);
        Check.yes("11: the first mode", x.put(0, 0, 0));
        Seasons.slots("11: the first mode", x, 0, 0);
        SeasonOfHours none = Seasons.withArtists(0, 5);
        Check.refused("11: no modes", none, Call.put(0, 0, 0), Call.put(0, 0, -1));
        Seasons.slots("11: nobody stays", none, NONE, NONE);
    }

    /** 11: "or nobody (artist NONE; mode doesn't matter): true". */
    private static void putNobody() {
        for (int mode : new int[] {0, 1, -1, 2, 6, MIN, MAX}) {
            SeasonOfHours empty = new SeasonOfHours();
            Check.yes("11: nobody in an empty season, mode " + mode, empty.put(0, NONE, mode));
            Seasons.slots("11: nobody", empty, NONE, NONE);
            SeasonOfHours x = Seasons.withArtists(2, 5);
            x.season(1, 2);
            x.put(0, 0, 1);
            x.put(1, 0, 1);
            Check.yes("11: nobody, mode " + mode, x.put(0, NONE, mode));
            Check.yes("11: nobody again, mode " + mode, x.put(0, NONE, mode));
            Seasons.slots("11: nobody in this slot alone", x, NONE, NONE, 0, 1);
        }
    }

    /** Terms 1: "nobody at first. It stays as told, whatever else is told". */
    private static void programmeStaysAsTold() {
        SeasonOfHours x = Seasons.liking(7, 2, 5, 4);
        x.season(1, 2);
        x.put(0, 0, 1);
        x.put(1, 1, 1);
        Call[] others = {Call.mode(7, 7), Call.artist(1), Call.like(0, 1, 0), Call.like(1, 1, 100),
            Call.rival(0, 1, true), Call.ill(0, true), Call.set(0, 0), Call.set(1, 0), Call.piece(0, 9, 9, true),
            Call.played(0, 9), Call.row(200, 9), Call.vote(0, 0), Call.kin(0, 1, true), Call.near(0, 1),
            Call.wrong(), Call.prize(0)};
        for (Call other : others) {
            Check.yes("taken: " + other.text(), other.on(x) != other.refusal());
            Seasons.slots("stays as told behind " + other.text(), x, 0, 1, 1, 1);
        }
        Check.due("two are there", x.count(3), 2);
    }

    /** 12: "NoSuchElementException: none such". */
    private static void atSlots() {
        for (int[] shape : SHAPES) {
            SeasonOfHours x = Seasons.withArtists(1, 5);
            int slots = shape[0] * shape[1];
            x.season(shape[0], shape[1]);
            Check.yes("12: the last slot is put", x.put(slots - 1, 0, 0));
            for (int what = 0; what <= 1; what++) {
                Check.refused("12: slot", x, Call.at(-1, what), Call.at(slots, what), Call.at(6, what),
                    Call.at(MIN, what), Call.at(MAX, what));
                Check.due("12: the first slot", Check.at(x, 0, what), slots == 1 ? 0 : NONE);
                Check.due("12: the last slot", Check.at(x, slots - 1, what), 0);
            }
        }
    }

    /** 12: "what 0: ARTIST (NONE), 1: MODE (NONE)"; "another what". */
    private static void atWhat() {
        SeasonOfHours x = Seasons.withArtists(2, 5);
        for (int round = 0; round < 2; round++) {
            Check.refused("12: what", x, Call.at(0, -1), Call.at(0, 2), Call.at(0, MIN), Call.at(0, MAX),
                Call.at(-1, -1), Call.at(1, 2));
            Check.due("12: artist", Check.at(x, 0, 0), round == 0 ? NONE : 0);
            Check.due("12: mode", Check.at(x, 0, 1), round == 0 ? NONE : 1);
            x.put(0, 0, 1);
        }
    }

    /** Asks a programme of wrong(), and mend() for whether it is GOOD: a good one is not changed. */
    private static void good(String sentence, SeasonOfHours x) {
        Check.due(sentence + ": wrong", x.wrong(), 0);
        Check.due(sentence + ": mend", x.mend(), 0);
    }

    /** As good(), where wrong() tells a fault and to mend it takes one slot. */
    private static void bad(String sentence, SeasonOfHours x, int wrong) {
        Check.due(sentence + ": wrong", x.wrong(), wrong);
        Check.due(sentence + ": mend", x.mend(), 1);
        Check.due(sentence + ": mended", x.wrong(), 0);
    }

    /** Terms 1: "an ARTIST is .. not ILL". */
    private static void ill() {
        for (int slot = 0; slot < 6; slot++) {
            SeasonOfHours x = Seasons.liking(5, 1, 5);
            x.season(2, 3);
            x.put(slot, 0, 0);
            good("13: well", x);
            x.ill(0, true);
            bad("13: ill", x, 10 + slot);
            Check.due("14: nobody else is there", x.best(), 0);
            x.ill(0, false);
            Check.due("14: well again", x.best(), 5);
        }
    }

    /** Terms 1: "an ARTIST is in one SLOT at most", whatever the evening. */
    private static void inOneSlotAtMost() {
        for (int[] shape : new int[][] {{2, 3}, {3, 2}}) {
            for (int later = 1; later < 6; later++) {
                for (int ahead = 0; ahead < later; ahead++) {
                    SeasonOfHours x = Seasons.liking(5, 2, 5);
                    x.season(shape[0], shape[1]);
                    x.put(later, 0, 1);
                    good("13: in one slot", x);
                    x.put(ahead, 0, 0);
                    bad("13: in two", x, 20 + later);
                    Check.due("14: best in one slot", x.best(), 5);
                }
            }
        }
    }

    /** Terms 1: "plays (LIKING above 0) its MODE". */
    private static void playsIt() {
        for (int slot = 0; slot < 6; slot++) {
            SeasonOfHours x = Seasons.withArtists(2, 5);
            x.season(3, 2);
            x.like(0, 0, 1);
            x.put(slot, 0, 0);
            good("13: a liking of 1", x);
            x.put(slot, 0, 1);
            bad("13: a liking of 0", x, 30 + slot);
            Check.due("15: the mode that it plays", x.at(slot, 1), 0);
        }
    }

    /** Terms 1: "the MODE is of the SLOT's HOUR". */
    private static void ofTheHour() {
        for (int slot = 0; slot < 6; slot++) {
            SeasonOfHours x = new SeasonOfHours();
            x.mode(1, 1 << slot % 3);
            x.mode(2, 15 - (1 << slot % 3));
            x.artist(5);
            x.like(0, 0, 1);
            x.like(0, 1, 1);
            x.season(2, 3);
            x.put(slot, 0, 0);
            good("13: of this hour alone", x);
            x.put(slot, 0, 1);
            bad("13: of all other hours", x, 40 + slot);
            Check.due("15: the mode of this hour", x.at(slot, 1), 0);
        }
    }

    /** Terms 1: "in an EVENING no MODE is twice". */
    private static void modeOnceAnEvening() {
        SeasonOfHours x = Seasons.liking(5, 2, 5, 5);
        x.season(2, 3);
        x.put(2, 0, 0);
        x.put(3, 1, 0);
        good("13: the end of an evening and the beginning of the next", x);
        x.season(1, 3);
        x.put(0, 0, 0);
        x.put(2, 1, 1);
        good("13: two modes", x);
        x.put(2, 1, 0);
        bad("13: one mode, with a gap", x, 52);
        SeasonOfHours one = Seasons.liking(5, 1, 5, 5);
        one.season(1, 2);
        Check.due("14: one mode, one evening", one.best(), 5);
        one.season(2, 1);
        Check.due("14: one mode, two evenings", one.best(), 10);
    }

    /** Terms 1: "the later one's RANK is not below the earlier one's". */
    private static void rankNotBelow() {
        int[][] ranks = {{1, 1, 0}, {9, 9, 0}, {5, 6, 0}, {1, 9, 0}, {6, 5, 62}, {9, 1, 62}, {2, 1, 62}, {9, 8, 62}};
        for (int[] r : ranks) {
            SeasonOfHours x = Seasons.withArtists(2, r[0], r[1]);
            x.season(1, 3);
            x.like(0, 0, 5);
            x.like(1, 1, 6);
            x.put(0, 0, 0);
            x.put(2, 1, 1);
            String sentence = "13: rank " + r[1] + " behind " + r[0];
            if (r[2] == 0) {
                good(sentence, x);
            } else {
                bad(sentence, x, r[2]);
            }
            Check.due("14: both play", x.best(), 11);
            Check.due("14: who is first", x.at(0, 0), r[0] <= r[1] ? 0 : 1);
            x.season(2, 1);
            x.put(0, 0, 0);
            x.put(1, 1, 1);
            good(sentence + " in two evenings", x);
        }
    }

    /** Terms 1: "no two are RIVALS" in an EVENING, next to each other or not. */
    private static void noRivals() {
        SeasonOfHours x = Seasons.liking(5, 3, 5, 5, 5);
        x.season(2, 3);
        x.rival(2, 0, true);
        x.put(2, 0, 0);
        x.put(3, 2, 1);
        good("13: rivals in two evenings", x);
        x.season(1, 3);
        x.put(0, 0, 0);
        x.put(1, 1, 1);
        good("13: one of them", x);
        x.put(2, 2, 2);
        bad("13: rivals with another between", x, 72);
        Check.due("14: never in one evening", x.best(), 10);
        x.season(3, 1);
        Check.due("14: in three evenings", x.best(), 15);
    }

    /** Terms 1: "TOO NEAR: above LIMIT". */
    private static void asNearAsLimit() {
        for (int near = 0; near <= 12; near++) {
            SeasonOfHours x = new SeasonOfHours();
            x.mode(4095, 15);
            x.mode((1 << near) - 1, 15);
            x.artist(5);
            x.artist(5);
            x.like(0, 0, 5);
            x.like(1, 1, 5);
            x.season(1, 2);
            x.put(0, 0, 0);
            x.put(1, 1, 1);
            good("13: LIMIT at first, near " + near, x);
            x.set(0, near);
            good("13: as near as LIMIT " + near, x);
            Check.due("14: as near as LIMIT " + near, x.best(), 10);
            if (near > 0) {
                x.set(0, near - 1);
                Check.due("14: above LIMIT", x.best(), 5);
                x.put(1, 1, 1);
                bad("13: above LIMIT " + (near - 1), x, 81);
            }
        }
    }

    /** Terms 1: "that of the latest SLOT ahead of it in the EVENING that has somebody". */
    private static void nearTheLatestAhead() {
        SeasonOfHours x = new SeasonOfHours();
        x.mode(0b0011, 15);
        x.mode(0b0010, 15);
        x.mode(0b1000, 15);
        for (int i = 0; i < 3; i++) {
            x.artist(5);
            x.like(i, i, 5);
        }
        x.set(0, 0);
        x.season(1, 3);
        x.put(0, 0, 0);
        x.put(2, 1, 1);
        bad("13: nobody between", x, 82);
        x.put(0, 0, 0);
        x.put(1, 2, 2);
        x.put(2, 1, 1);
        good("13: somebody between", x);
        Check.due("14: somebody between", x.best(), 15);
        x.season(2, 2);
        x.put(1, 0, 0);
        x.put(2, 1, 1);
        good("13: in another evening", x);
        x.season(2, 2);
        x.put(0, 0, 0);
        x.put(3, 1, 1);
        good("13: in another evening, with a gap", x);
    }

    /** 13: "ten times the first reason and 1, and the first SLOT": the last slot of six for each reason. */
    private static void reasonsAtTheLastSlot() {
        for (int reason = 0; reason < 8; reason++) {
            SeasonOfHours x = new SeasonOfHours();
            x.mode(1, 15);
            x.mode(reason == 7 ? 1 : 2, reason == 3 ? 8 : 15);
            x.set(0, 0);
            x.artist(5);
            x.artist(reason == 5 ? 4 : 5);
            x.like(0, 0, 1);
            x.like(1, 0, 1);
            x.like(1, 1, reason == 2 ? 0 : 1);
            x.season(2, 3);
            x.put(reason == 1 ? 0 : 4, reason == 1 ? 1 : 0, 0);
            x.put(5, 1, reason == 4 ? 0 : 1);
            x.ill(1, reason == 0);
            x.rival(0, 1, reason == 6);
            Check.due("13: reason " + reason + " at the last slot", x.wrong(), 10 * reason + 15);
        }
    }

    /** 13: "reasons are asked one by one, each of all SLOTS": all eight at once, then one less each time. */
    private static void reasonsOneByOne() {
        SeasonOfHours x = new SeasonOfHours();
        x.mode(0b01, 15);
        x.mode(0b11, 15);
        x.mode(0b10, 8);
        for (int rank : new int[] {5, 4, 5, 5, 5, 5}) {
            x.artist(rank);
        }
        for (int i = 0; i < 6; i++) {
            x.like(i, 0, 1);
            x.like(i, 1, 1);
        }
        x.set(0, 0);
        x.season(3, 2);
        // Each later reason has an earlier slot than the one ahead of it, as far as there are slots.
        x.put(0, 0, 0);
        x.put(1, 1, 1);
        x.put(2, 2, 0);
        x.put(3, 3, 0);
        x.put(4, 4, 2);
        x.put(5, 4, 2);
        x.ill(4, true);
        x.rival(0, 1, true);
        Check.due("13: 0, ill", x.wrong(), 14);
        x.ill(4, false);
        Check.due("13: 1, in a slot ahead", x.wrong(), 25);
        x.put(5, 5, 2);
        Check.due("13: 2, does not play it", x.wrong(), 34);
        x.like(4, 2, 1);
        Check.due("13: 2 at the slot behind", x.wrong(), 35);
        x.like(5, 2, 1);
        Check.due("13: 3, the hour", x.wrong(), 44);
        x.put(4, NONE, 0);
        Check.due("13: 3 at the slot behind", x.wrong(), 45);
        x.put(5, NONE, 0);
        Check.due("13: 4, the mode is ahead", x.wrong(), 53);
        x.put(3, NONE, 0);
        Check.due("13: 5, greater rank is ahead", x.wrong(), 61);
        x.put(0, 1, 0);
        x.put(1, 0, 1);
        Check.due("13: 6, a rival is ahead", x.wrong(), 71);
        x.rival(0, 1, false);
        Check.due("13: 7, too near", x.wrong(), 81);
        x.set(0, 1);
        good("13: good", x);
    }

    /** 14, of nothing: no artists, no modes, nobody who plays; WORTH 0. */
    private static void bestOfLeast() {
        for (int[] shape : SHAPES) {
            SeasonOfHours[] nothing = {new SeasonOfHours(), Seasons.withModes(6), Seasons.withArtists(0, 5, 5),
                Seasons.withArtists(6, 1, 2, 3, 4, 5, 6)};
            for (SeasonOfHours x : nothing) {
                x.season(shape[0], shape[1]);
                Check.due("14: best of nothing", x.best(), 0);
                Check.due("14: nobody", x.count(3), 0);
                Check.due("14: good", x.wrong(), 0);
            }
        }
    }

    /** 14, of the most: six slots of a LIKING of 100, and one evening of as many as it has slots. */
    private static void bestOfMost() {
        SeasonOfHours x = Seasons.liking(100, 6, 1, 1, 1, 9, 9, 9);
        for (int[] shape : SHAPES) {
            int slots = shape[0] * shape[1];
            x.season(shape[0], shape[1]);
            Check.due("14: the greatest worth of " + slots, x.best(), 100 * slots);
            Check.due("14: all slots", x.count(3), slots);
            Check.due("14: good", x.wrong(), 0);
        }
        Seasons.slots("14: as the document orders them", x, 0, 0, 1, 1, 2, 0, 3, 1, 4, 0, 5, 1);
    }

    /** 14: fewer artists, modes or slots than the others would have room for. */
    private static void bestWithTooFew() {
        SeasonOfHours one = Seasons.liking(10, 6, 5);
        one.season(2, 3);
        Check.due("14: one artist, six slots", one.best(), 10);
        Seasons.slots("14: at the first", one, 0, 0, NONE, NONE, NONE, NONE, NONE, NONE, NONE, NONE, NONE, NONE);
        SeasonOfHours mode = Seasons.liking(10, 1, 5, 5, 5, 5, 5, 5);
        mode.season(2, 3);
        Check.due("14: one mode, two evenings", mode.best(), 20);
        Seasons.slots("14: the less artists", mode, 0, 0, NONE, NONE, NONE, NONE, 1, 0, NONE, NONE, NONE, NONE);
        SeasonOfHours slot = Seasons.liking(10, 6, 5, 5, 5, 5, 5, 5);
        slot.like(5, 5, 11);
        Check.due("14: one slot", slot.best(), 11);
        Seasons.slots("14: the most liking", slot, 5, 5);
    }

    /** Terms 1: "of equal ones that with the less ARTIST at the first SLOT that is not alike, then the less MODE". */
    private static void bestOfEqualWorth() {
        SeasonOfHours x = Seasons.liking(10, 2, 5, 5);
        x.like(0, 0, 0);
        Check.due("14: artist ahead of mode", x.best(), 10);
        Seasons.slots("14: the less artist with its greater mode", x, 0, 1);
        x.like(1, 0, 11);
        Check.due("14: worth ahead of artist", x.best(), 11);
        Seasons.slots("14: more by 1", x, 1, 0);
        x.like(0, 0, 11);
        Check.due("14: equal again", x.best(), 11);
        Seasons.slots("14: the less artist", x, 0, 0);
        x.season(2, 1);
        x.like(0, 0, 10);
        x.like(1, 0, 10);
        Check.due("14: two evenings", x.best(), 20);
        Seasons.slots("14: the first slot first", x, 0, 0, 1, 0);
    }

    /** Terms 1: "nobody is greater than all". */
    private static void nobodyIsGreaterThanAll() {
        SeasonOfHours x = Seasons.withArtists(6, 5, 5, 5, 5, 5, 5);
        x.like(5, 5, 1);
        for (int[] shape : SHAPES) {
            x.season(shape[0], shape[1]);
            int last = shape[0] * shape[1] - 1;
            x.put(last, 5, 5);
            Check.due("14: one who plays", x.best(), 1);
            Check.due("14: the last artist is ahead of nobody", x.at(0, 0), 5);
            Check.due("14: with the last mode", x.at(0, 1), 5);
            Check.due("14: and nobody else", x.count(3), 1);
        }
    }

    /** Terms 1: "WORTH: the sum of LIKINGS": nobody in a slot adds and takes nothing. */
    private static void nobodyHasNoWorth() {
        SeasonOfHours x = Seasons.withArtists(2, 5, 5, 5, 5);
        x.season(1, 2);
        x.rival(0, 1, true);
        x.rival(0, 2, true);
        x.like(0, 0, 10);
        x.like(1, 0, 5);
        for (int second : new int[] {5, 6, 4, 5}) {
            x.like(2, 1, second);
            Check.due("14: one of 10, or 5 and " + second, x.best(), second == 6 ? 11 : 10);
            oneOrTwo("14: one of 10, or 5 and " + second, x, second);
            x.put(0, 3, 0);
            x.put(1, 3, 1);
            Check.due("15: one of 10, or 5 and " + second, x.mend(), 2);
            oneOrTwo("15: one of 10, or 5 and " + second, x, second);
        }
    }

    private static void oneOrTwo(String sentence, SeasonOfHours x, int second) {
        if (second == 6) {
            Seasons.slots(sentence, x, 1, 0, 2, 1);
        } else {
            Seasons.slots(sentence, x, 0, 0, NONE, NONE);
        }
    }

    /** 15: "how many SLOTS were changed": none at the least, all six at the most. */
    private static void mendLeastAndMost() {
        for (int[] shape : SHAPES) {
            int slots = shape[0] * shape[1];
            SeasonOfHours x = Seasons.withArtists(1, 5);
            x.season(shape[0], shape[1]);
            good("15: nobody is good", x);
            for (int slot = 0; slot < slots; slot++) {
                x.put(slot, 0, 0);
            }
            Check.due("15: every slot of " + slots, x.mend(), slots);
            Check.due("15: nobody is left", x.count(3), 0);
            Check.due("15: nothing to mend any more", x.mend(), 0);
        }
        SeasonOfHours empty = new SeasonOfHours();
        Check.due("15: an empty season", empty.mend(), 0);
    }

    /** Terms 1: "the one with the fewest SLOTS that are unlike (ARTIST or MODE) THE PROGRAMME". */
    private static void mendFewestAheadOfWorth() {
        SeasonOfHours x = Seasons.liking(1, 2, 5, 5);
        x.like(1, 0, 100);
        x.like(1, 1, 100);
        x.season(1, 2);
        x.put(0, 0, 0);
        good("15: a good one of little worth stays", x);
        Check.due("15: its worth", x.count(4), 1);
        x.like(0, 0, 0);
        Check.due("15: one slot", x.mend(), 1);
        Seasons.slots("15: the most worth for one slot", x, 1, 0, NONE, NONE);
        x.put(0, 0, 0);
        x.put(1, 0, 0);
        Check.due("15: both slots", x.mend(), 2);
        Seasons.slots("15: the most worth for two", x, 0, 1, 1, 0);
        x.ill(1, true);
        Check.due("15: another mode of the same artist is a change", x.mend(), 1);
        Seasons.slots("15: nobody in its place", x, 0, 1, NONE, NONE);
    }

    /** Terms 1: "of equal ones as the BEST". */
    private static void mendOfEqualWorth() {
        SeasonOfHours x = Seasons.liking(10, 2, 5, 5, 5);
        x.ill(2, true);
        x.put(0, 2, 0);
        Check.due("15: anyone will do", x.mend(), 1);
        Seasons.slots("15: the less artist, the less mode", x, 0, 0);
        x.put(0, 2, 0);
        x.like(1, 1, 11);
        Check.due("15: worth first", x.mend(), 1);
        Seasons.slots("15: more by 1", x, 1, 1);
        x.season(1, 2);
        x.like(1, 1, 10);
        x.put(0, 0, 1);
        x.put(1, 0, 1);
        Check.due("15: either slot", x.mend(), 1);
        Seasons.slots("15: the less artist first", x, 0, 1, 1, 0);
    }
}
