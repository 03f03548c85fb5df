/**
 * One call with its arguments, so that tests can keep tables of calls: a boolean answers 1 or 0, a
 * NoSuchElementException Check.THREW. refusal is what the call answers when it is refused.
 */
record Call(String text, int refusal, Answer answer) {
    private static final int NONE = -1;
    private static final int FALSE = 0;

    interface Answer {
        int of(SeasonOfHours x);
    }

    int on(SeasonOfHours x) {
        return answer.of(x);
    }

    private static Call of(int refusal, Answer answer, String name, Object... arguments) {
        StringBuilder text = new StringBuilder(name).append('(');
        for (int i = 0; i < arguments.length; i++) {
            text.append(i == 0 ? "" : ", ").append(arguments[i]);
        }
        return new Call(text.append(')').toString(), refusal, answer);
    }

    static Call mode(int notes, int hours) {
        return of(NONE, x -> x.mode(notes, hours), "mode", notes, hours);
    }

    static Call artist(int rank) {
        return of(NONE, x -> x.artist(rank), "artist", rank);
    }

    static Call like(int artist, int mode, int v) {
        return of(FALSE, x -> x.like(artist, mode, v) ? 1 : 0, "like", artist, mode, v);
    }

    static Call rival(int a, int b, boolean is) {
        return of(FALSE, x -> x.rival(a, b, is) ? 1 : 0, "rival", a, b, is);
    }

    static Call ill(int artist, boolean is) {
        return of(FALSE, x -> x.ill(artist, is) ? 1 : 0, "ill", artist, is);
    }

    static Call set(int what, int v) {
        return of(NONE, x -> x.set(what, v), "set", what, v);
    }

    static Call season(int e, int s) {
        return of(FALSE, x -> x.season(e, s) ? 1 : 0, "season", e, s);
    }

    static Call near(int a, int b) {
        return of(NONE, x -> x.near(a, b), "near", a, b);
    }

    static Call count(int what) {
        return of(NONE, x -> x.count(what), "count", what);
    }

    static Call put(int slot, int artist, int mode) {
        return of(FALSE, x -> x.put(slot, artist, mode) ? 1 : 0, "put", slot, artist, mode);
    }

    static Call at(int slot, int what) {
        return of(Check.THREW, x -> Check.at(x, slot, what), "at", slot, what);
    }

    static Call wrong() {
        return of(NONE, SeasonOfHours::wrong, "wrong");
    }

    static Call best() {
        return of(NONE, SeasonOfHours::best, "best");
    }

    static Call mend() {
        return of(NONE, SeasonOfHours::mend, "mend");
    }

    static Call piece(int mode, int minutes, int liking, boolean main) {
        return of(NONE, x -> x.piece(mode, minutes, liking, main), "piece", mode, minutes, liking, main);
    }

    static Call played(int piece, int day) {
        return of(FALSE, x -> x.played(piece, day) ? 1 : 0, "played", piece, day);
    }

    static Call row(int day, int minutes) {
        return of(NONE, x -> x.row(day, minutes), "row", day, minutes);
    }

    static Call told(int i) {
        return of(NONE, x -> x.told(i), "told", i);
    }

    static Call vote(int judge, int artist) {
        return of(NONE, x -> x.vote(judge, artist), "vote", judge, artist);
    }

    static Call kin(int judge, int artist, boolean is) {
        return of(FALSE, x -> x.kin(judge, artist, is) ? 1 : 0, "kin", judge, artist, is);
    }

    static Call points(int artist) {
        return of(NONE, x -> x.points(artist), "points", artist);
    }

    static Call prize(int i) {
        return of(NONE, x -> x.prize(i), "prize", i);
    }
}
