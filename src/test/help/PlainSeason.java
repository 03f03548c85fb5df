import java.util.ArrayList;
import java.util.List;

/**
 * The document read once more, by trying every programme and every row: slow, but without any of the
 * ideas by which SeasonOfHours is quick. at() answers Check.THREW where the document asks for an
 * exception.
 */
final class PlainSeason {
    private static final int NONE = -1;

    private record Mode(int notes, int hours) {
    }

    private record Piece(int mode, int minutes, int liking, boolean main) {
    }

    private record Seat(int artist, int mode) {
    }

    private static final Seat NOBODY = new Seat(NONE, NONE);

    private final List<Mode> modes = new ArrayList<>();
    private final List<Integer> ranks = new ArrayList<>();
    private final List<Piece> pieces = new ArrayList<>();
    private final List<List<Integer>> judges = new ArrayList<>();
    private final int[][] liking = new int[6][6];
    private final boolean[][] rivals = new boolean[6][6];
    private final boolean[][] kin = new boolean[7][6];
    private final boolean[] sick = new boolean[6];
    private final Integer[] last = new Integer[10];
    private int limit = 12;
    private int rest = 7;
    private int evenings = 1;
    private int hours = 1;
    private List<Seat> programme = new ArrayList<>(List.of(NOBODY));
    private List<Integer> latest = new ArrayList<>();

    // What a search has found so far.
    private List<Seat> bestSeats;
    private int bestChanges;
    private int bestWorth;
    private List<Integer> bestRow;

    PlainSeason() {
        for (int j = 0; j < 7; j++) {
            judges.add(new ArrayList<>());
        }
    }

    int mode(int notes, int itsHours) {
        if (notes < 0 || notes > 4095 || itsHours < 0 || itsHours > 15 || modes.size() == 6) {
            return NONE;
        }
        modes.add(new Mode(notes, itsHours));
        return modes.size() - 1;
    }

    int artist(int rank) {
        if (rank < 1 || rank > 9 || ranks.size() == 6) {
            return NONE;
        }
        ranks.add(rank);
        return ranks.size() - 1;
    }

    private boolean noMode(int m) {
        return m < 0 || m >= modes.size();
    }

    private boolean noArtist(int a) {
        return a < 0 || a >= ranks.size();
    }

    boolean like(int a, int m, int v) {
        if (noArtist(a) || noMode(m) || v < 0 || v > 100) {
            return false;
        }
        liking[a][m] = v;
        return true;
    }

    boolean rival(int a, int b, boolean is) {
        if (noArtist(a) || noArtist(b) || a == b) {
            return false;
        }
        rivals[a][b] = is;
        rivals[b][a] = is;
        return true;
    }

    boolean ill(int a, boolean is) {
        if (noArtist(a)) {
            return false;
        }
        sick[a] = is;
        return true;
    }

    int set(int what, int v) {
        int was = what == 0 ? limit : rest;
        if (what == 0 && v >= 0 && v <= 12) {
            limit = v;
            return was;
        }
        if (what == 1 && v >= 0 && v <= 30) {
            rest = v;
            return was;
        }
        return NONE;
    }

    boolean season(int e, int s) {
        if (e < 1 || e > 3 || s < 1 || s > 3 || e * s > 6) {
            return false;
        }
        evenings = e;
        hours = s;
        programme = new ArrayList<>();
        for (int i = 0; i < e * s; i++) {
            programme.add(NOBODY);
        }
        return true;
    }

    int near(int a, int b) {
        if (noMode(a) || noMode(b)) {
            return NONE;
        }
        int shared = 0;
        for (int note = 0; note < 12; note++) {
            int bit = 1 << note;
            if ((modes.get(a).notes() & bit) != 0 && (modes.get(b).notes() & bit) != 0) {
                shared++;
            }
        }
        return shared;
    }

    int count(int what) {
        int filled = 0;
        for (Seat seat : programme) {
            if (seat.artist() != NONE) {
                filled++;
            }
        }
        return switch (what) {
            case 0 -> modes.size();
            case 1 -> ranks.size();
            case 2 -> evenings * hours;
            case 3 -> filled;
            case 4 -> worth(programme);
            case 5 -> pieces.size();
            case 6 -> latest.size();
            default -> NONE;
        };
    }

    private int worth(List<Seat> seats) {
        int sum = 0;
        for (Seat seat : seats) {
            if (seat.artist() != NONE) {
                sum += liking[seat.artist()][seat.mode()];
            }
        }
        return sum;
    }

    boolean put(int slot, int a, int m) {
        if (slot < 0 || slot >= programme.size()) {
            return false;
        }
        if (a == NONE) {
            programme.set(slot, NOBODY);
            return true;
        }
        if (noArtist(a) || noMode(m)) {
            return false;
        }
        programme.set(slot, new Seat(a, m));
        return true;
    }

    int at(int slot, int what) {
        if (slot < 0 || slot >= programme.size() || what < 0 || what > 1) {
            return Check.THREW;
        }
        return what == 0 ? programme.get(slot).artist() : programme.get(slot).mode();
    }

    int wrong() {
        for (int reason = 0; reason < 8; reason++) {
            for (int slot = 0; slot < programme.size(); slot++) {
                if (fault(programme, slot, reason)) {
                    return (reason + 1) * 10 + slot;
                }
            }
        }
        return 0;
    }

    private boolean fault(List<Seat> seats, int slot, int reason) {
        Seat seat = seats.get(slot);
        int a = seat.artist();
        int m = seat.mode();
        if (a == NONE) {
            return false;
        }
        if (reason == 0) {
            return sick[a];
        }
        if (reason == 2) {
            return liking[a][m] == 0;
        }
        if (reason == 3) {
            return (modes.get(m).hours() & 1 << slot % hours) == 0;
        }
        int newest = NONE;
        for (int i = 0; i < slot; i++) {
            Seat other = seats.get(i);
            if (other.artist() == NONE) {
                continue;
            }
            if (reason == 1 && other.artist() == a) {
                return true;
            }
            if (i / hours != slot / hours) {
                continue;
            }
            newest = other.mode();
            if (reason == 4 && other.mode() == m
                    || reason == 5 && ranks.get(other.artist()) > ranks.get(a)
                    || reason == 6 && rivals[a][other.artist()]) {
                return true;
            }
        }
        return reason == 7 && newest != NONE && near(newest, m) > limit;
    }

    int best() {
        bestSeats = null;
        search(new ArrayList<>(), false);
        programme = bestSeats;
        return bestWorth;
    }

    int mend() {
        bestSeats = null;
        search(new ArrayList<>(), true);
        programme = bestSeats;
        return bestChanges;
    }

    // A slot is only at fault because of itself or of slots ahead of it, so a bad beginning stays bad.
    private void search(List<Seat> seats, boolean mending) {
        int slot = seats.size();
        if (slot == programme.size()) {
            offer(seats, mending);
            return;
        }
        for (int a = 0; a < ranks.size(); a++) {
            for (int m = 0; m < modes.size(); m++) {
                seats.add(new Seat(a, m));
                boolean good = true;
                for (int reason = 0; good && reason < 8; reason++) {
                    good = !fault(seats, slot, reason);
                }
                if (good) {
                    search(seats, mending);
                }
                seats.remove(slot);
            }
        }
        seats.add(NOBODY);
        search(seats, mending);
        seats.remove(slot);
    }

    private void offer(List<Seat> seats, boolean mending) {
        int changes = 0;
        for (int i = 0; mending && i < seats.size(); i++) {
            if (!seats.get(i).equals(programme.get(i))) {
                changes++;
            }
        }
        int itsWorth = worth(seats);
        boolean better = bestSeats == null || changes < bestChanges
                || changes == bestChanges && itsWorth > bestWorth
                || changes == bestChanges && itsWorth == bestWorth && isAhead(seats, bestSeats);
        if (better) {
            bestSeats = new ArrayList<>(seats);
            bestChanges = changes;
            bestWorth = itsWorth;
        }
    }

    private static boolean isAhead(List<Seat> a, List<Seat> b) {
        for (int i = 0; i < a.size(); i++) {
            Seat x = a.get(i);
            Seat y = b.get(i);
            if (x.artist() != y.artist()) {
                return y.artist() == NONE || x.artist() != NONE && x.artist() < y.artist();
            }
            if (x.mode() != y.mode()) {
                return x.mode() < y.mode();
            }
        }
        return false;
    }

    int piece(int m, int minutes, int itsLiking, boolean main) {
        if (noMode(m) || minutes < 1 || minutes > 90 || itsLiking < 0 || itsLiking > 100 || pieces.size() == 10) {
            return NONE;
        }
        pieces.add(new Piece(m, minutes, itsLiking, main));
        return pieces.size() - 1;
    }

    boolean played(int p, int day) {
        if (p < 0 || p >= pieces.size() || day < 0 || day > 400) {
            return false;
        }
        last[p] = day;
        return true;
    }

    int row(int day, int minutes) {
        if (day < 0 || day > 400 || minutes < 1 || minutes > 300) {
            return NONE;
        }
        bestRow = null;
        searchRow(new ArrayList<>(), day, minutes);
        if (bestRow == null) {
            return NONE;
        }
        latest = bestRow;
        return likingOf(latest);
    }

    private void searchRow(List<Integer> row, int day, int left) {
        int mains = 0;
        for (int p : row) {
            mains += pieces.get(p).main() ? 1 : 0;
        }
        if (mains > 1) {
            return;
        }
        if (mains == 1 && (bestRow == null || isRowBetter(row, bestRow))) {
            bestRow = new ArrayList<>(row);
        }
        for (int p = 0; p < pieces.size(); p++) {
            Piece piece = pieces.get(p);
            boolean tired = last[p] != null && Math.abs(last[p] - day) < rest;
            boolean close = !row.isEmpty() && near(pieces.get(row.get(row.size() - 1)).mode(), piece.mode()) > limit;
            if (!row.contains(p) && !tired && !close && piece.minutes() <= left) {
                row.add(p);
                searchRow(row, day, left - piece.minutes());
                row.remove(row.size() - 1);
            }
        }
    }

    private int likingOf(List<Integer> row) {
        int sum = 0;
        for (int p : row) {
            sum += pieces.get(p).liking();
        }
        return sum;
    }

    private boolean isRowBetter(List<Integer> a, List<Integer> b) {
        if (likingOf(a) != likingOf(b)) {
            return likingOf(a) > likingOf(b);
        }
        if (a.size() != b.size()) {
            return a.size() < b.size();
        }
        for (int i = 0; i < a.size(); i++) {
            if (!a.get(i).equals(b.get(i))) {
                return a.get(i) < b.get(i);
            }
        }
        return false;
    }

    int told(int i) {
        return i < 0 || i >= latest.size() ? NONE : latest.get(i);
    }

    int vote(int judge, int a) {
        if (judge < 0 || judge > 6 || noArtist(a) || judges.get(judge).contains(a)) {
            return NONE;
        }
        judges.get(judge).add(a);
        return judges.get(judge).size();
    }

    boolean kin(int judge, int a, boolean is) {
        if (judge < 0 || judge > 6 || noArtist(a)) {
            return false;
        }
        kin[judge][a] = is;
        return true;
    }

    int points(int a) {
        if (noArtist(a)) {
            return NONE;
        }
        int sum = 0;
        for (int judge = 0; judge < 7; judge++) {
            int place = judges.get(judge).indexOf(a);
            if (place >= 0 && !kin[judge][a]) {
                int points = 6;
                for (int i = 0; i < place; i++) {
                    points -= kin[judge][judges.get(judge).get(i)] ? 0 : 1;
                }
                sum += Math.max(points, 0);
            }
        }
        return sum;
    }

    int prize(int i) {
        if (noArtist(i)) {
            return NONE;
        }
        List<Integer> places = new ArrayList<>();
        for (int a = 0; a < ranks.size(); a++) {
            places.add(a);
        }
        places.sort((a, b) -> points(a) != points(b) ? points(b) - points(a)
                : !ranks.get(a).equals(ranks.get(b)) ? ranks.get(b) - ranks.get(a) : a - b);
        return places.get(i);
    }
}
