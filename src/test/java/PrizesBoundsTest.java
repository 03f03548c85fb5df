/** Promises 20 to 23 and Terms 3: each sentence that names a boundary, on both its sides. */
public final class PrizesBoundsTest {
    private static final int MIN = Integer.MIN_VALUE;
    private static final int MAX = Integer.MAX_VALUE;

    public static void main(String[] args) {
        voteJudges();
        voteArtists();
        voteOnce();
        fullRows();
        kinJudges();
        kinArtists();
        kinInAndOutOfRow();
        pointsNumbers();
        pointsLeast();
        pointsMost();
        pointsBehindKin();
        prizePlaces();
        prizeByPoints();
        prizeOfEqualPoints();
        prizeOfNewArtist();
        Check.end();
    }

    private static SeasonOfHours withSix() {
        return Seasons.withArtists(0, 5, 5, 5, 5, 5, 5);
    }

    private static void pointsAre(String sentence, SeasonOfHours x, int... due) {
        for (int artist = 0; artist < due.length; artist++) {
            Check.due(sentence + ", points of " + artist, x.points(artist), due[artist]);
        }
    }

    private static void prizesAre(String sentence, SeasonOfHours x, int... due) {
        for (int i = 0; i < due.length; i++) {
            Check.due(sentence + ", place " + i, x.prize(i), due[i]);
        }
        Check.refused(sentence, x, Call.prize(due.length));
    }

    /** 20: "Refused: no such JUDGE"; Terms 3: "JUDGES 0 .. 6". */
    private static void voteJudges() {
        SeasonOfHours x = withSix();
        Check.refused("20: judge", x, Call.vote(-1, 0), Call.vote(7, 0), Call.vote(MIN, 0), Call.vote(MAX, 0));
        pointsAre("20: refused", x, 0, 0, 0, 0, 0, 0);
        for (int judge = 0; judge <= 6; judge++) {
            Check.due("20: judge " + judge, x.vote(judge, 0), 1);
            Check.due("20: its points", x.points(0), 6 * (judge + 1));
        }
        Check.refused("20: judge again", x, Call.vote(-1, 1), Call.vote(7, 1));
        pointsAre("20: all judges", x, 42, 0, 0, 0, 0, 0);
    }

    /** 20: "Refused: no such .. ARTIST". */
    private static void voteArtists() {
        Check.refused("20: no artists", new SeasonOfHours(), Call.vote(0, 0), Call.vote(6, -1));
        SeasonOfHours x = Seasons.withArtists(0, 5, 5);
        Check.refused("20: artist", x, Call.vote(0, -1), Call.vote(0, 2), Call.vote(0, MIN), Call.vote(0, MAX));
        Check.due("20: the last artist", x.vote(0, 1), 1);
        Check.refused("20: artist behind it", x, Call.vote(0, -1), Call.vote(0, 2));
        Check.due("20: the first artist", x.vote(0, 0), 2);
        pointsAre("20: both", x, 5, 6);
        x.artist(5);
        Check.due("20: now there is a third", x.vote(0, 2), 3);
    }

    /** 20: "it is in it". */
    private static void voteOnce() {
        SeasonOfHours x = withSix();
        int[] order = {3, 0, 5};
        for (int i = 0; i < order.length; i++) {
            Check.due("20: once", x.vote(2, order[i]), i + 1);
            for (int j = 0; j <= i; j++) {
                Check.refused("20: it is in it", x, Call.vote(2, order[j]));
            }
        }
        pointsAre("20: once each", x, 5, 0, 0, 6, 0, 4);
        Check.due("20: in another judge's row", x.vote(3, 3), 1);
        x.kin(2, 3, true);
        Check.refused("20: kin is in it too", x, Call.vote(2, 3));
        Check.due("20: the next", x.vote(2, 1), 4);
    }

    /** 20: "how many it has": 1 to 6, and then every ARTIST is in it. */
    private static void fullRows() {
        SeasonOfHours x = withSix();
        for (int judge : new int[] {0, 6}) {
            for (int i = 0; i < 6; i++) {
                Check.due("20: how many", x.vote(judge, 5 - i), i + 1);
            }
            for (int artist = -1; artist <= 6; artist++) {
                Check.refused("20: a full row", x, Call.vote(judge, artist));
            }
        }
        pointsAre("20: two full rows", x, 2, 4, 6, 8, 10, 12);
    }

    /** 21: "Refused: none such": JUDGES 0 .. 6. */
    private static void kinJudges() {
        SeasonOfHours x = withSix();
        for (int judge = 0; judge <= 6; judge++) {
            x.vote(judge, 0);
        }
        Check.refused("21: judge", x, Call.kin(-1, 0, true), Call.kin(7, 0, true), Call.kin(MIN, 0, true),
            Call.kin(MAX, 0, true));
        Check.due("21: no kin", x.points(0), 42);
        for (int judge = 0; judge <= 6; judge++) {
            Check.yes("21: judge " + judge, x.kin(judge, 0, true));
            Check.due("21: one judge less", x.points(0), 36 - 6 * judge);
        }
        Check.refused("21: not any more", x, Call.kin(-1, 0, false), Call.kin(7, 0, false), Call.kin(MIN, 0, false),
            Call.kin(MAX, 0, false));
        Check.due("21: all are kin", x.points(0), 0);
        Check.yes("21: the last judge is not any more", x.kin(6, 0, false));
        Check.due("21: gives again", x.points(0), 6);
    }

    private static void kinArtists() {
        Check.refused("21: no artists", new SeasonOfHours(), Call.kin(0, 0, true), Call.kin(6, 0, false));
        SeasonOfHours x = Seasons.withArtists(0, 5, 5, 5);
        for (int artist = 0; artist < 3; artist++) {
            x.vote(4, artist);
        }
        Check.refused("21: artist", x, Call.kin(4, -1, true), Call.kin(4, 3, true), Call.kin(4, MIN, true),
            Call.kin(4, MAX, true));
        pointsAre("21: no kin", x, 6, 5, 4);
        Check.yes("21: the last artist", x.kin(4, 2, true));
        pointsAre("21: the last is kin", x, 6, 5, 0);
        Check.yes("21: the first artist", x.kin(4, 0, true));
        pointsAre("21: the first is kin too", x, 0, 6, 0);
        Check.refused("21: not any more", x, Call.kin(4, -1, false), Call.kin(4, 3, false));
        pointsAre("21: both still are", x, 0, 6, 0);
        x.artist(5);
        x.vote(4, 3);
        pointsAre("21: a new one is no kin", x, 0, 6, 0, 5);
    }

    /** KIN may be told ahead of the vote and behind it, and twice. */
    private static void kinInAndOutOfRow() {
        SeasonOfHours x = Seasons.withArtists(0, 5, 5);
        Check.yes("21: ahead of the vote", x.kin(0, 0, true));
        Check.yes("21: twice", x.kin(0, 0, true));
        Check.due("21: comes into the row", x.vote(0, 0), 1);
        Check.due("21: and counts there", x.vote(0, 1), 2);
        pointsAre("21: kin gets nothing", x, 0, 6);
        Check.yes("21: not any more", x.kin(0, 0, false));
        Check.yes("21: not, twice", x.kin(0, 0, false));
        pointsAre("21: gets its points", x, 6, 5);
        Check.yes("21: no kin at all", x.kin(3, 1, false));
        pointsAre("21: nothing is changed by it", x, 6, 5);
    }

    /** 22: "NONE: none such". */
    private static void pointsNumbers() {
        Check.refused("22: no artists", new SeasonOfHours(), Call.points(0), Call.points(-1));
        SeasonOfHours x = new SeasonOfHours();
        for (int i = 0; i < 6; i++) {
            Check.refused("22: none such", x, Call.points(i), Call.points(-1), Call.points(6), Call.points(MIN),
                Call.points(MAX));
            x.artist(5);
            Check.due("22: now there is", x.points(i), 0);
        }
        Check.refused("22: none behind six", x, Call.points(6), Call.points(-1), Call.points(MIN),
            Call.points(MAX));
    }

    /** Terms 3: "0 at least": without a vote, from KIN, and 1 for the last of six. */
    private static void pointsLeast() {
        SeasonOfHours x = withSix();
        pointsAre("22: no votes", x, 0, 0, 0, 0, 0, 0);
        for (int i = 0; i < 6; i++) {
            x.vote(0, i);
        }
        pointsAre("22: a full row", x, 6, 5, 4, 3, 2, 1);
        x.kin(0, 5, true);
        pointsAre("22: the last is kin", x, 6, 5, 4, 3, 2, 0);
        for (int i = 0; i < 5; i++) {
            x.kin(0, i, true);
        }
        pointsAre("22: all are kin", x, 0, 0, 0, 0, 0, 0);
        x.kin(0, 5, false);
        pointsAre("22: the last alone is not", x, 0, 0, 0, 0, 0, 6);
    }

    private static void pointsMost() {
        SeasonOfHours x = withSix();
        for (int i = 0; i < 42; i++) {
            x.vote(i / 6, i % 6);
        }
        pointsAre("22: seven judges of one mind", x, 42, 35, 28, 21, 14, 7);
        prizesAre("23: seven judges of one mind", x, 0, 1, 2, 3, 4, 5);
    }

    /** Terms 3: "6 less how many stand ahead of it in the row that are no KIN of the JUDGE". */
    private static void pointsBehindKin() {
        for (int kin = 0; kin < 6; kin++) {
            SeasonOfHours x = withSix();
            for (int i = 0; i < 6; i++) {
                x.vote(1, i);
            }
            x.kin(1, kin, true);
            x.kin(2, 0, true);
            for (int artist = 0; artist < 6; artist++) {
                int due = artist == kin ? 0 : artist < kin ? 6 - artist : 7 - artist;
                Check.due("22: kin of " + kin + ", points of " + artist, x.points(artist), due);
            }
        }
    }

    /** 23: "The i-th place (0: the first)"; "NONE: none such". */
    private static void prizePlaces() {
        SeasonOfHours x = new SeasonOfHours();
        for (int i = 0; i <= 6; i++) {
            Check.refused("23: none such", x, Call.prize(i), Call.prize(-1), Call.prize(6), Call.prize(MIN),
                Call.prize(MAX));
            x.artist(5);
            for (int place = 0; place <= i && place < 6; place++) {
                Check.due("23: place " + place + " of " + (i + 1), x.prize(place), place);
            }
        }
    }

    /** 23: "by POINTS, the most first": by one point, against rank and number. */
    private static void prizeByPoints() {
        SeasonOfHours x = Seasons.withArtists(0, 9, 9, 1, 1, 1, 1);
        for (int artist : new int[] {5, 4, 3, 2, 1, 0}) {
            x.vote(0, artist);
        }
        prizesAre("23: the last number first", x, 5, 4, 3, 2, 1, 0);
        x.kin(0, 5, true);
        prizesAre("23: kin out", x, 4, 3, 2, 1, 0, 5);
    }

    /** 23: "of equal ones the greater RANK, then the less number". */
    private static void prizeOfEqualPoints() {
        SeasonOfHours x = Seasons.withArtists(0, 1, 8, 9, 8, 9, 1);
        prizesAre("23: no points", x, 2, 4, 1, 3, 0, 5);
        x.vote(0, 5);
        x.vote(1, 0);
        x.vote(2, 3);
        prizesAre("23: three of six points", x, 3, 0, 5, 2, 4, 1);
        x.vote(2, 5);
        prizesAre("23: one of eleven", x, 5, 3, 0, 2, 4, 1);
    }

    private static void prizeOfNewArtist() {
        SeasonOfHours x = Seasons.withArtists(0, 3);
        x.vote(0, 0);
        prizesAre("23: one", x, 0);
        x.artist(9);
        prizesAre("23: a new one of greater rank has no points", x, 0, 1);
        x.kin(0, 0, true);
        prizesAre("23: equal now", x, 1, 0);
        Check.refused("23: refused artist", x, Call.artist(10), Call.artist(0));
        prizesAre("23: still two", x, 1, 0);
    }
}
