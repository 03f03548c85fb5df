/** "An object is used for at most 512 calls": the last of them still answers, whatever it is. */
public final class LastCallTest {
    private static final int MOST_CALLS = 512;

    private LastCallTest() {
    }

    public static void main(String[] args) {
        Call[] last = {Call.best(), Call.mend(), Call.row(250, 300), Call.wrong(), Call.prize(5), Call.vote(0, 0),
            Call.at(6, 0), Call.count(4), Call.put(5, 0, 0), Call.season(1, 1), Call.like(5, 5, 100)};
        for (Call call : last) {
            SeasonOfHours early = Seasons.full();
            int due = call.on(early);
            SeasonOfHours late = Seasons.full();
            askUntil(late, MOST_CALLS - callsOfFull() - 1);
            Check.due("as the 512th call: " + call.text(), call.on(late), due);
        }
        Check.end();
    }

    /** 12 of modes and artists, 36 likings, 6 of rivals to season, 6 puts, 20 of pieces, a row, 45 of prizes. */
    private static int callsOfFull() {
        return 12 + 36 + 6 + 6 + 20 + 1 + 45;
    }

    /** Calls that leave the season as it is: reading, refused ones, and what is told again. */
    private static void askUntil(SeasonOfHours x, int calls) {
        Call[] idle = {Call.near(0, 1), Call.count(3), Call.wrong(), Call.told(0), Call.points(2), Call.prize(0),
            Call.mode(7, 7), Call.artist(7), Call.set(0, 2), Call.set(1, 10), Call.rival(0, 5, true), Call.ill(4, true),
            Call.put(0, 5, 0), Call.at(9, 9), Call.vote(3, 3), Call.kin(0, 0, true), Call.piece(0, 1, 1, true),
            Call.played(0, 0), Call.row(200, 120), Call.like(0, 0, 0)};
        for (int i = 0; i < calls; i++) {
            idle[i % idle.length].on(x);
        }
    }
}
