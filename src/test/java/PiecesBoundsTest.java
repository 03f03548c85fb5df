/** Promises 16 to 19 and Terms 2: each sentence that names a boundary, on both its sides. */
public final class PiecesBoundsTest {
    private static final int NONE = SeasonOfHours.NONE;
    private static final int MIN = Integer.MIN_VALUE;
    private static final int MAX = Integer.MAX_VALUE;

    public static void main(String[] args) {
        pieceModes();
        pieceMinutes();
        pieceLikings();
        tenPieces();
        playedNumbers();
        playedDays();
        lastIsToldLatest();
        lastNoneAtFirst();
        rowDays();
        rowMinutes();
        sumOfMinutes();
        sumOfMost();
        rowRest();
        restAtTheEndsOfDays();
        justOneMain();
        rowAsNearAsLimit();
        nearOnlyOneBehindTheOther();
        sameModeBesideItself();
        pieceOnceAtMost();
        noRowStays();
        rowChangesNothingElse();
        rowOfMostLiking();
        rowOfFewestPieces();
        rowThatIsFirst();
        toldBounds();
        Check.end();
    }

    /** 16: "Refused: others"; a PIECE is "of a MODE". */
    private static void pieceModes() {
        Check.refused("16: no modes", new SeasonOfHours(), Call.piece(0, 1, 1, true), Call.piece(-1, 1, 1, true));
        SeasonOfHours x = Seasons.withModes(2);
        Check.refused("16: mode", x, Call.piece(-1, 1, 1, true), Call.piece(2, 1, 1, true),
            Call.piece(MIN, 1, 1, true), Call.piece(MAX, 1, 1, true));
        Check.due("16: none yet", x.count(5), 0);
        Check.due("16: the first mode", x.piece(0, 1, 1, true), 0);
        Check.due("16: the last mode", x.piece(1, 1, 1, false), 1);
        SeasonOfHours six = Seasons.withModes(6);
        Check.refused("16: mode of six", six, Call.piece(6, 1, 1, true));
        Check.due("16: the last of six", six.piece(5, 1, 1, true), 0);
    }

    /** Terms 2: "MINUTES 1 .. 90". */
    private static void pieceMinutes() {
        SeasonOfHours x = Seasons.withModes(1);
        Check.refused("16: minutes", x, Call.piece(0, 0, 9, true), Call.piece(0, 91, 9, true),
            Call.piece(0, -1, 9, true), Call.piece(0, MIN, 9, true), Call.piece(0, MAX, 9, true));
        Check.due("16: none yet", x.count(5), 0);
        Check.due("16: no row of none", x.row(0, 300), NONE);
        Check.due("16: the most minutes", x.piece(0, 90, 9, true), 0);
        Check.due("16: too short for it", x.row(0, 89), NONE);
        Check.due("16: just enough", x.row(0, 90), 9);
        Check.due("16: the least minutes", x.piece(0, 1, 8, true), 1);
        Check.due("16: one minute", x.row(0, 1), 8);
        Check.refused("16: minutes again", x, Call.piece(0, 0, 9, true), Call.piece(0, 91, 9, true));
        Check.due("16: two pieces", x.count(5), 2);
    }

    /** Terms 2: "a LIKING 0 .. 100". */
    private static void pieceLikings() {
        SeasonOfHours x = Seasons.withModes(1);
        Check.refused("16: liking", x, Call.piece(0, 9, -1, true), Call.piece(0, 9, 101, true),
            Call.piece(0, 9, MIN, true), Call.piece(0, 9, MAX, true));
        Check.due("16: none yet", x.count(5), 0);
        Check.due("16: the least liking", x.piece(0, 9, 0, true), 0);
        Check.due("16: a row of liking 0", x.row(0, 9), 0);
        Seasons.rowIs("16: is a row", x, 0);
        Check.due("16: the most liking", x.piece(0, 9, 100, true), 1);
        Check.due("16: a row of liking 100", x.row(0, 9), 100);
        Check.due("16: not main", x.piece(0, 9, 100, false), 2);
        Check.due("16: goes with a main one", x.row(0, 18), 200);
    }

    /** 16: "10"; Terms 2: "PIECES 0 .. (at most 10)". */
    private static void tenPieces() {
        SeasonOfHours x = Seasons.withModes(1);
        for (int i = 0; i < 10; i++) {
            Check.due("16: the pieces ahead", x.count(5), i);
            Check.due("16: its number", x.piece(0, 10 + i, 50 + i, i < 9), i);
        }
        Check.refused("16: an eleventh", x, Call.piece(0, 1, 100, true), Call.piece(0, 90, 0, false),
            Call.piece(0, 1, 1, true), Call.piece(0, 0, 101, true));
        Check.due("16: ten pieces", x.count(5), 10);
        for (int i = 0; i < 9; i++) {
            Check.due("16: piece " + i + " keeps its liking", x.row(0, 10 + i), 50 + i);
            Seasons.rowIs("16: piece " + i, x, i);
        }
        Check.due("16: the last is not main", x.row(0, 19), 58);
        Check.due("16: the last goes with a main one", x.row(0, 29), 109);
        Seasons.rowIs("16: the first and the last", x, 0, 9);
        Check.due("16: less than any", x.row(0, 9), NONE);
    }

    /** 17: "Refused: others": no such PIECE. */
    private static void playedNumbers() {
        Check.refused("17: no pieces", Seasons.withModes(1), Call.played(0, 0), Call.played(-1, 0));
        SeasonOfHours x = Seasons.withModes(1);
        for (int i = 0; i < 10; i++) {
            Check.refused("17: not there yet", x, Call.played(i, 100));
            x.piece(0, 10 + i, 50 + i, true);
        }
        Check.refused("17: piece", x, Call.played(-1, 100), Call.played(10, 100), Call.played(MIN, 100),
            Call.played(MAX, 100));
        Check.due("17: the last was not played", x.row(100, 300), 59);
        Check.yes("17: the last piece", x.played(9, 100));
        Check.due("17: the last is kept away", x.row(100, 300), 58);
        Check.due("17: the first was not played", x.row(100, 10), 50);
        Check.yes("17: the first piece", x.played(0, 100));
        Check.due("17: the first is kept away", x.row(100, 10), NONE);
    }

    /** 17: "on a DAY (0 .. 400)". */
    private static void playedDays() {
        SeasonOfHours x = Seasons.withModes(1);
        x.piece(0, 10, 9, true);
        x.set(1, 1);
        for (int day : new int[] {0, 400, 1, 399, 200}) {
            Check.yes("17: day " + day, x.played(0, day));
            Check.refused("17: day", x, Call.played(0, -1), Call.played(0, 401), Call.played(0, MIN),
                Call.played(0, MAX));
            Check.due("17: still played on " + day, x.row(day, 10), NONE);
            for (int other : new int[] {0, 1, 199, 201, 399, 400}) {
                Check.due("17: played on " + day + ", row for " + other, x.row(other, 10), other == day ? NONE : 9);
            }
        }
    }

    /** A PIECE told twice: the day told latest counts, on either side of the one ahead. */
    private static void lastIsToldLatest() {
        SeasonOfHours x = Seasons.withModes(1);
        x.piece(0, 10, 9, true);
        int[] days = {100, 107, 200, 400, 0, 50, 50};
        for (int i = 0; i < days.length; i++) {
            x.played(0, days[i]);
            Check.due("17: kept away on " + days[i], x.row(days[i], 10), NONE);
            if (i > 0 && days[i - 1] != days[i]) {
                Check.due("17: not any more on " + days[i - 1], x.row(days[i - 1], 10), 9);
            }
        }
    }

    /** Terms 2: "LAST played on a DAY (none at first)": no day keeps a new PIECE away. */
    private static void lastNoneAtFirst() {
        SeasonOfHours x = Seasons.withModes(1);
        x.set(1, 30);
        x.piece(0, 10, 9, true);
        for (int day : new int[] {0, 1, 28, 29, 30, 371, 400}) {
            Check.due("17: never played, day " + day, x.row(day, 10), 9);
        }
        x.played(0, 0);
        x.piece(0, 10, 8, true);
        Check.due("17: the new one alone", x.row(0, 10), 8);
    }

    /** 18: "for a DAY", of which 17 says "0 .. 400". */
    private static void rowDays() {
        SeasonOfHours x = Seasons.withModes(1);
        x.piece(0, 10, 9, true);
        Check.refused("18: day", x, Call.row(-1, 10), Call.row(401, 10), Call.row(MIN, 10), Call.row(MAX, 10));
        Seasons.rowIs("18: no row yet", x);
        Check.due("18: the first day", x.row(0, 10), 9);
        x.piece(0, 10, 10, true);
        Check.refused("18: day again", x, Call.row(-1, 10), Call.row(401, 10), Call.row(MIN, 10),
            Call.row(MAX, 10));
        Seasons.rowIs("18: the latest stays", x, 0);
        Check.due("18: the last day", x.row(400, 10), 10);
        Seasons.rowIs("18: another row", x, 1);
    }

    /** Terms 2: "at most T MINUTES (1 .. 300)". */
    private static void rowMinutes() {
        SeasonOfHours x = Seasons.withModes(1);
        x.piece(0, 1, 9, true);
        Check.refused("18: minutes", x, Call.row(0, 0), Call.row(0, 301), Call.row(0, -1), Call.row(0, MIN),
            Call.row(0, MAX));
        Seasons.rowIs("18: no row yet", x);
        Check.due("18: one minute", x.row(0, 1), 9);
        x.piece(0, 1, 10, true);
        Check.refused("18: minutes again", x, Call.row(0, 0), Call.row(0, 301), Call.row(0, MIN), Call.row(0, MAX));
        Seasons.rowIs("18: the latest stays", x, 0);
        Check.due("18: 300 minutes", x.row(0, 300), 10);
        Seasons.rowIs("18: another row", x, 1);
    }

    /** Terms 2: "the sum of MINUTES is at most T". */
    private static void sumOfMinutes() {
        SeasonOfHours x = Seasons.withModes(1);
        x.piece(0, 30, 10, true);
        x.piece(0, 31, 10, false);
        x.piece(0, 32, 10, false);
        int[][] dues = {{93, 30}, {92, 20}, {62, 20}, {61, 20}, {60, 10}, {30, 10}, {29, NONE}};
        for (int[] due : dues) {
            Check.due("18: within " + due[0], x.row(0, due[0]), due[1]);
        }
        Check.due("18: the fewest minutes of equal ones do not matter", x.row(0, 62), 20);
        Seasons.rowIs("18: the first row", x, 0, 1);
    }

    /** Ten PIECES of 30 MINUTES are just 300; one MINUTE more and one of them stays out. */
    private static void sumOfMost() {
        SeasonOfHours x = Seasons.withModes(1);
        SeasonOfHours more = Seasons.withModes(1);
        for (int i = 0; i < 10; i++) {
            x.piece(0, 30, 100, i == 4);
            more.piece(0, i == 9 ? 31 : 30, 100, i == 4);
        }
        Check.due("18: all ten", x.row(0, 300), 1000);
        Seasons.rowIs("18: all ten", x, 0, 1, 2, 3, 4, 5, 6, 7, 8, 9);
        Check.due("18: a minute less", x.row(0, 299), 900);
        Seasons.rowIs("18: nine", x, 0, 1, 2, 3, 4, 5, 6, 7, 8);
        Check.due("18: a minute more", more.row(0, 300), 900);
        Seasons.rowIs("18: nine of them", more, 0, 1, 2, 3, 4, 5, 6, 7, 8);
    }

    /** Terms 2: "not LAST played less than REST DAYS ahead of (or behind) the DAY". */
    private static void rowRest() {
        SeasonOfHours x = Seasons.withModes(1);
        x.piece(0, 10, 9, true);
        x.played(0, 200);
        for (int rest : new int[] {7, 0, 1, 2, 29, 30}) {
            x.set(1, rest);
            Check.due("18: REST " + rest + ", ahead", x.row(200 - rest, 10), 9);
            Check.due("18: REST " + rest + ", behind", x.row(200 + rest, 10), 9);
            if (rest > 0) {
                Check.due("18: less than REST " + rest + ", ahead", x.row(200 - rest + 1, 10), NONE);
                Check.due("18: less than REST " + rest + ", behind", x.row(200 + rest - 1, 10), NONE);
            }
            Check.due("18: REST " + rest + ", the same day", x.row(200, 10), rest == 0 ? 9 : NONE);
        }
    }

    private static void restAtTheEndsOfDays() {
        SeasonOfHours x = Seasons.withModes(1);
        x.piece(0, 10, 9, true);
        x.played(0, 0);
        Check.due("18: 6 days behind day 0", x.row(6, 10), NONE);
        Check.due("18: 7 days behind day 0", x.row(7, 10), 9);
        Check.due("18: 400 days behind day 0", x.row(400, 10), 9);
        x.played(0, 400);
        Check.due("18: 6 days ahead of day 400", x.row(394, 10), NONE);
        Check.due("18: 7 days ahead of day 400", x.row(393, 10), 9);
        Check.due("18: 400 days ahead of day 400", x.row(0, 10), 9);
        x.set(1, 30);
        Check.due("18: 29 days ahead of day 400", x.row(371, 10), NONE);
        Check.due("18: 30 days ahead of day 400", x.row(370, 10), 9);
    }

    /** Terms 2: "just one is MAIN". */
    private static void justOneMain() {
        SeasonOfHours x = Seasons.withModes(1);
        x.piece(0, 10, 100, false);
        Check.due("18: no main one", x.row(0, 300), NONE);
        x.piece(0, 10, 0, true);
        Check.due("18: one main one, though it is liked by nobody", x.row(0, 300), 100);
        Seasons.rowIs("18: one main one", x, 0, 1);
        x.piece(0, 10, 50, true);
        x.piece(0, 10, 50, true);
        Check.due("18: never two main ones", x.row(0, 300), 150);
        Seasons.rowIs("18: the first of equal ones", x, 0, 2);
        for (int piece = 1; piece < 4; piece++) {
            x.played(piece, 0);
        }
        Check.due("18: no main one is left", x.row(0, 300), NONE);
    }

    /** Terms 2: "not of MODES that are TOO NEAR", which is "above LIMIT". */
    private static void rowAsNearAsLimit() {
        for (int near = 0; near <= 12; near++) {
            SeasonOfHours x = new SeasonOfHours();
            x.mode(4095, 0);
            x.mode((1 << near) - 1, 0);
            x.piece(0, 10, 9, true);
            x.piece(1, 10, 8, false);
            Check.due("18: LIMIT at first, near " + near, x.row(0, 20), 17);
            x.set(0, near);
            Check.due("18: as near as LIMIT " + near, x.row(0, 20), 17);
            if (near > 0) {
                x.set(0, near - 1);
                Check.due("18: above LIMIT " + (near - 1), x.row(0, 20), 9);
            }
        }
    }

    /** Terms 2: "two PIECES one behind the other". */
    private static void nearOnlyOneBehindTheOther() {
        SeasonOfHours x = new SeasonOfHours();
        x.mode(0b0011, 0);
        x.mode(0b0001, 0);
        x.mode(0b1000, 0);
        x.set(0, 0);
        x.piece(0, 10, 5, true);
        x.piece(1, 10, 5, false);
        Check.due("18: side by side", x.row(0, 300), 5);
        Seasons.rowIs("18: the main one alone", x, 0);
        x.piece(2, 10, 5, false);
        Check.due("18: with one between", x.row(0, 300), 15);
        Seasons.rowIs("18: with one between", x, 0, 2, 1);
        SeasonOfHours y = new SeasonOfHours();
        y.mode(0b1000, 0);
        y.mode(0b0011, 0);
        y.mode(0b0001, 0);
        y.set(0, 0);
        for (int i = 0; i < 3; i++) {
            y.piece(i, 10, 5, i == 2);
        }
        Check.due("18: with the first between", y.row(0, 300), 15);
        Seasons.rowIs("18: with the first between", y, 1, 0, 2);
    }

    /** A MODE shares all its NOTES with itself, so its PIECES stand side by side if these are at most LIMIT. */
    private static void sameModeBesideItself() {
        SeasonOfHours x = new SeasonOfHours();
        x.mode(0b111, 0);
        x.piece(0, 10, 5, true);
        x.piece(0, 10, 5, false);
        x.set(0, 3);
        Check.due("18: as many notes as LIMIT", x.row(0, 300), 10);
        x.set(0, 2);
        Check.due("18: more notes than LIMIT", x.row(0, 300), 5);
        SeasonOfHours none = new SeasonOfHours();
        none.mode(0, 0);
        none.set(0, 0);
        none.piece(0, 10, 5, true);
        none.piece(0, 10, 5, false);
        Check.due("18: no notes at all", none.row(0, 300), 10);
    }

    /** Terms 2: "each PIECE is in it once at most". */
    private static void pieceOnceAtMost() {
        SeasonOfHours x = Seasons.withModes(1);
        x.piece(0, 1, 9, true);
        Check.due("18: one piece, 300 minutes", x.row(0, 300), 9);
        Seasons.rowIs("18: once", x, 0);
        x.piece(0, 1, 8, false);
        Check.due("18: two pieces, 300 minutes", x.row(0, 300), 17);
        Seasons.rowIs("18: once each", x, 0, 1);
    }

    /** 18: "NONE: others, there is none (the latest row stays)". */
    private static void noRowStays() {
        SeasonOfHours x = Seasons.withModes(1);
        Check.due("18: no pieces", x.row(0, 300), NONE);
        Seasons.rowIs("18: no row", x);
        x.piece(0, 10, 9, false);
        x.piece(0, 10, 8, true);
        Check.due("18: too short", x.row(0, 9), NONE);
        Seasons.rowIs("18: still no row", x);
        Check.due("18: a row", x.row(0, 20), 17);
        x.played(1, 0);
        Check.refused("18: others and none", x, Call.row(0, 20), Call.row(0, 9), Call.row(-1, 20),
            Call.row(401, 20), Call.row(0, 0), Call.row(0, 301), Call.row(MIN, MIN), Call.row(MAX, MAX));
        Seasons.rowIs("18: the latest row stays", x, 0, 1);
        Check.due("18: a shorter row", x.row(7, 10), 8);
        Seasons.rowIs("18: is the latest then", x, 1);
    }

    /** A row is not played by being found: the same call answers the same. */
    private static void rowChangesNothingElse() {
        SeasonOfHours x = Seasons.some();
        int first = x.row(20, 300);
        for (int i = 0; i < 3; i++) {
            Check.due("18: the same again", x.row(20, 300), first);
        }
        Check.due("18: REST stays", x.set(1, 5), 5);
        Check.due("18: pieces stay", x.count(5), 4);
        Seasons.slots("18: the programme stays", x, 0, 0, 1, 1, NONE, NONE, 2, 2);
    }

    /** Terms 2: "the greatest sum of LIKINGS": more by 1 is ahead of fewer PIECES and of the first ROW. */
    private static void rowOfMostLiking() {
        SeasonOfHours x = Seasons.withModes(1);
        x.piece(0, 10, 5, true);
        x.piece(0, 10, 1, false);
        x.piece(0, 20, 5, true);
        Check.due("18: more by 1", x.row(0, 20), 6);
        Seasons.rowIs("18: though one alone is nearly as liked", x, 0, 1);
        x.piece(0, 20, 7, true);
        Check.due("18: more by 1 again", x.row(0, 20), 7);
        Seasons.rowIs("18: though it is a later row", x, 3);
    }

    /** Terms 2: "of equal ones the fewest PIECES": fewer by 1 is ahead of the first ROW. */
    private static void rowOfFewestPieces() {
        SeasonOfHours x = Seasons.withModes(1);
        x.piece(0, 10, 5, false);
        x.piece(0, 10, 10, true);
        x.piece(0, 20, 15, true);
        Check.due("18: two or one", x.row(0, 20), 15);
        Seasons.rowIs("18: one, though it is a later row", x, 2);
        SeasonOfHours y = Seasons.withModes(1);
        y.piece(0, 20, 15, true);
        y.piece(0, 10, 5, false);
        y.piece(0, 10, 10, true);
        Check.due("18: one or two", y.row(0, 20), 15);
        Seasons.rowIs("18: one", y, 0);
        SeasonOfHours zero = Seasons.withModes(1);
        zero.piece(0, 10, 0, false);
        zero.piece(0, 10, 0, true);
        zero.piece(0, 10, 0, true);
        Check.due("18: a sum of 0", zero.row(0, 300), 0);
        Seasons.rowIs("18: the fewest of sum 0", zero, 1);
    }

    /** Terms 2: "then the first ROW (the less PIECE where they are not alike first)". */
    private static void rowThatIsFirst() {
        SeasonOfHours x = Seasons.withModes(1);
        x.piece(0, 10, 5, true);
        x.piece(0, 20, 6, true);
        x.piece(0, 10, 4, false);
        x.piece(0, 20, 5, false);
        Check.due("18: 0 with 3, or 1 with 2", x.row(0, 30), 10);
        Seasons.rowIs("18: not alike at the first", x, 0, 3);
        SeasonOfHours y = Seasons.withModes(1);
        y.piece(0, 10, 1, true);
        y.piece(0, 15, 5, false);
        y.piece(0, 25, 6, false);
        y.piece(0, 5, 4, false);
        y.piece(0, 15, 5, false);
        Check.due("18: 0 with 1 and 4, or with 2 and 3", y.row(0, 40), 11);
        Seasons.rowIs("18: not alike at the second", y, 0, 1, 4);
        y.played(1, 0);
        Check.due("18: without 1", y.row(0, 40), 11);
        Seasons.rowIs("18: 0 with 2 and 3", y, 0, 2, 3);
    }

    /** 19: "NONE for none such". */
    private static void toldBounds() {
        SeasonOfHours x = Seasons.withModes(1);
        Check.refused("19: no row", x, Call.told(0), Call.told(-1), Call.told(1), Call.told(MIN), Call.told(MAX));
        for (int i = 0; i < 10; i++) {
            x.piece(0, 1, 1, i == 0);
            Check.refused("19: not told yet", x, Call.told(i));
            x.row(0, 300);
            Check.due("19: the first", x.told(0), 0);
            Check.due("19: the last", x.told(i), i);
            Check.refused("19: none such", x, Call.told(-1), Call.told(i + 1), Call.told(10), Call.told(MIN),
                Call.told(MAX));
        }
        x.row(0, 1);
        Check.refused("19: a shorter row", x, Call.told(1), Call.told(9));
        Check.due("19: one piece", x.told(0), 0);
    }
}
