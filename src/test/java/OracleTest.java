import java.util.Random;

/** Random runs of calls, each answer against PlainSeason, which tries everything. */
public final class OracleTest {
    // What an object answers behind its 512th call is free.
    private static final int CALLS = 512;
    private static final int COMPARED = 62;
    private static final int MOST_AT_ONCE = 3;

    private final Random random;
    private final SeasonOfHours x = new SeasonOfHours();
    private final PlainSeason y = new PlainSeason();
    private final String name;
    private final int mostArtists;
    private final int mostPieces;
    private final int density;
    private int calls = 0;

    private OracleTest(long seed) {
        random = new Random(seed);
        name = "run " + seed + ": ";
        mostArtists = 2 + random.nextInt(5);
        mostPieces = 1 + random.nextInt(seed % 40 == 0 ? 11 : 7);
        // Many artists who play everything would take PlainSeason too long.
        density = mostArtists > 4 ? 25 : 70;
    }

    public static void main(String[] args) {
        for (long seed = 1; seed <= 800; seed++) {
            new OracleTest(seed).run();
        }
        Check.end();
    }

    private void run() {
        for (int i = 0; i < 6; i++) {
            tellMode();
            tellArtist();
        }
        for (int i = 0; i < 20; i++) {
            tellLike();
            tellPiece();
        }
        while (calls < CALLS - COMPARED - 8 * MOST_AT_ONCE) {
            for (int i = 0; i < 8; i++) {
                oneCall();
            }
            compareAll();
        }
        while (calls < CALLS - MOST_AT_ONCE) {
            oneCall();
        }
    }

    private void ask(String call, long got, long want) {
        calls++;
        Check.due(name + call, got, want);
    }

    private int upTo(int bound) {
        return random.nextInt(bound);
    }

    private boolean chance(int percent) {
        return random.nextInt(100) < percent;
    }

    /** Mostly 0 .. bound - 1, at times just outside or far away. */
    private int some(int bound) {
        int kind = upTo(40);
        if (kind == 0) {
            return -1;
        }
        if (kind == 1) {
            return bound;
        }
        if (kind == 2) {
            return random.nextInt();
        }
        return upTo(bound);
    }

    private void tellMode() {
        int notes = random.nextInt(4096) & (chance(50) ? 4095 : 63);
        int hours = chance(40) ? 15 : upTo(16);
        if (chance(5)) {
            notes = some(4096);
            hours = some(16);
        }
        ask("mode(" + notes + ", " + hours + ")", x.mode(notes, hours), y.mode(notes, hours));
    }

    private void tellArtist() {
        if (y.count(1) >= mostArtists && chance(97)) {
            return;
        }
        int rank = chance(60) ? 4 + upTo(2) : some(11);
        ask("artist(" + rank + ")", x.artist(rank), y.artist(rank));
    }

    private void tellLike() {
        int artist = some(Math.max(1, y.count(1)));
        int mode = some(6);
        int v = chance(3) ? some(101) : chance(100 - density) ? 0 : chance(50) ? 1 + upTo(4) : upTo(101);
        ask("like(" + artist + ", " + mode + ", " + v + ")",
                x.like(artist, mode, v) ? 1 : 0, y.like(artist, mode, v) ? 1 : 0);
    }

    private void tellPiece() {
        if (y.count(5) >= mostPieces) {
            return;
        }
        int mode = some(6);
        int minutes = chance(5) ? some(91) : 1 + upTo(60);
        int liking = chance(5) ? some(101) : chance(70) ? upTo(6) : upTo(101);
        boolean main = chance(40);
        ask("piece(" + mode + ", " + minutes + ", " + liking + ", " + main + ")",
                x.piece(mode, minutes, liking, main), y.piece(mode, minutes, liking, main));
    }

    private void oneCall() {
        int artists = Math.max(1, y.count(1));
        int slots = y.count(2);
        int a = some(artists);
        int b = some(artists);
        int m = some(6);
        boolean is = chance(40);
        switch (upTo(20)) {
            case 0 -> tellLike();
            case 1 -> ask("rival " + a + " " + b + is, x.rival(a, b, is) ? 1 : 0, y.rival(a, b, is) ? 1 : 0);
            case 2 -> ask("ill " + a + is, x.ill(a, is) ? 1 : 0, y.ill(a, is) ? 1 : 0);
            case 3 -> tellSet();
            case 4 -> tellSeason();
            case 5, 6, 7, 8 -> {
                int slot = some(slots);
                int who = chance(15) ? -1 : a;
                ask("put " + slot + " " + who + " " + m, x.put(slot, who, m) ? 1 : 0, y.put(slot, who, m) ? 1 : 0);
            }
            case 9 -> ask("best", x.best(), y.best());
            case 10, 11 -> ask("mend", x.mend(), y.mend());
            case 12 -> {
                int piece = some(Math.max(1, y.count(5)));
                int day = chance(10) ? some(401) : upTo(40);
                ask("played " + piece + " " + day, x.played(piece, day) ? 1 : 0, y.played(piece, day) ? 1 : 0);
            }
            case 13, 14 -> {
                int day = chance(10) ? some(401) : upTo(40);
                int minutes = chance(10) ? some(301) : chance(50) ? 300 : 1 + upTo(150);
                ask("row " + day + " " + minutes, x.row(day, minutes), y.row(day, minutes));
            }
            case 15, 16 -> {
                int judge = some(7);
                ask("vote " + judge + " " + a, x.vote(judge, a), y.vote(judge, a));
            }
            case 17 -> {
                int judge = some(7);
                ask("kin " + judge + " " + a + is, x.kin(judge, a, is) ? 1 : 0, y.kin(judge, a, is) ? 1 : 0);
            }
            case 18 -> ask("near " + a + " " + m, x.near(a, m), y.near(a, m));
            default -> {
                tellMode();
                tellArtist();
                tellPiece();
            }
        }
    }

    private void tellSet() {
        int what = some(2);
        int v = chance(50) ? 12 - upTo(6) : some(what == 0 ? 13 : 31);
        ask("set " + what + " " + v, x.set(what, v), y.set(what, v));
    }

    private void tellSeason() {
        int e = 1 + some(3);
        int s = 1 + some(3);
        ask("season " + e + " " + s, x.season(e, s) ? 1 : 0, y.season(e, s) ? 1 : 0);
    }

    private void compareAll() {
        ask("wrong", x.wrong(), y.wrong());
        for (int what = -1; what < 8; what++) {
            ask("count " + what, x.count(what), y.count(what));
        }
        for (int slot = -1; slot < 7; slot++) {
            ask("at " + slot + " 0", Check.at(x, slot, 0), y.at(slot, 0));
            ask("at " + slot + " 1", Check.at(x, slot, 1), y.at(slot, 1));
        }
        for (int i = -1; i < 11; i++) {
            ask("told " + i, x.told(i), y.told(i));
            ask("points " + i, x.points(i), y.points(i));
            ask("prize " + i, x.prize(i), y.prize(i));
        }
    }
}
