import java.util.ArrayList;
import java.util.Arrays;
import java.util.LinkedHashSet;
import java.util.List;
import java.util.Set;
import java.util.function.Supplier;

/**
 * "Refused calls answer NONE, or false, and change nothing": every call with every argument outside its
 * bounds, on an empty, an ordinary and a full season. After the call the season must answer each row
 * of Probe as one of which it has not been asked.
 */
public final class RefusalsTest {
    private static final int NONE = -1;
    private static final int MIN = Integer.MIN_VALUE;
    private static final int MAX = Integer.MAX_VALUE;
    private static final int MOST_CALLS = 512;
    private static final int CALLS_OF_MAKING = 150;
    private static final List<List<Call>> PROBES = Probe.rows();

    private final String name;
    private final Supplier<SeasonOfHours> maker;
    private final int modes;
    private final int artists;
    private final int slots;
    private final int pieces;
    private final int told;
    private final List<Call> calls = new ArrayList<>();

    private RefusalsTest(String name, Supplier<SeasonOfHours> maker) {
        this.name = name;
        this.maker = maker;
        SeasonOfHours x = maker.get();
        modes = x.count(0);
        artists = x.count(1);
        slots = x.count(2);
        pieces = x.count(5);
        told = x.count(6);
    }

    public static void main(String[] args) {
        for (List<Call> row : PROBES) {
            Check.yes("a probe within 512 calls", row.size() + CALLS_OF_MAKING < MOST_CALLS);
        }
        probesSeeEveryChange();
        RefusalsTest empty = new RefusalsTest("empty", SeasonOfHours::new);
        RefusalsTest some = new RefusalsTest("some", Seasons::some);
        RefusalsTest full = new RefusalsTest("full", Seasons::full);
        Check.due("empty: all that is there", empty.modes + empty.artists + empty.pieces + empty.told, 0);
        Check.due("full: modes", full.modes, 6);
        Check.due("full: artists", full.artists, 6);
        Check.due("full: slots", full.slots, 6);
        Check.due("full: pieces", full.pieces, 10);
        some.calls.addAll(List.of(Call.vote(0, 0), Call.vote(0, 1), Call.vote(6, 2), Call.row(0, 14)));
        full.addFull();
        for (RefusalsTest test : List.of(empty, some, full)) {
            test.addAll();
            test.run();
        }
        Check.end();
    }

    /** Were a probe blind for something, a refused call could change that unseen. */
    private static void probesSeeEveryChange() {
        List<Call> changes = List.of(Call.mode(1, 15), Call.artist(5), Call.like(0, 0, 31), Call.like(0, 2, 1),
            Call.like(1, 1, 0), Call.rival(0, 1, false), Call.rival(1, 2, true), Call.ill(2, false),
            Call.ill(0, true), Call.set(0, 4), Call.set(1, 6), Call.season(2, 2), Call.season(1, 1),
            Call.put(0, NONE, 0), Call.put(0, 0, 1), Call.put(0, 2, 0), Call.put(2, 2, 0), Call.best(), Call.mend(),
            Call.piece(0, 7, 3, false), Call.played(0, 101), Call.played(1, 100), Call.row(50, 300),
            Call.vote(1, 0), Call.vote(0, 2), Call.kin(0, 0, false), Call.kin(1, 1, true));
        for (Call change : changes) {
            SeasonOfHours told = Seasons.some();
            Check.yes("taken: " + change.text(), change.on(told) != change.refusal());
            boolean seen = false;
            for (List<Call> row : PROBES) {
                SeasonOfHours x = Seasons.some();
                change.on(x);
                seen |= !Arrays.equals(Probe.answers(row, x), Probe.answers(row, Seasons.some()));
            }
            Check.yes("seen: " + change.text(), seen);
        }
    }

    private void run() {
        List<int[]> due = new ArrayList<>();
        for (List<Call> row : PROBES) {
            due.add(Probe.answers(row, maker.get()));
        }
        for (Call call : calls) {
            for (int i = 0; i < PROBES.size(); i++) {
                SeasonOfHours x = maker.get();
                Check.refused(name, x, call);
                compare(call, PROBES.get(i), Probe.answers(PROBES.get(i), x), due.get(i));
            }
        }
    }

    private void compare(Call refused, List<Call> row, int[] got, int[] due) {
        for (int i = 0; i < got.length; i++) {
            if (got[i] != due[i]) {
                Check.due(name + ": behind " + refused.text() + " " + row.get(i).text(), got[i], due[i]);
                return;
            }
        }
        Check.yes(name, true);
    }

    /**
     * Numbers outside a range: next to it, at the ends of int, and such as fall into it when their sign
     * or their upper bits are lost.
     */
    private static Set<Integer> outside(int least, int most) {
        Set<Integer> found = new LinkedHashSet<>(List.of(least - 1, most + 1, MIN, MAX, -most, least - 2, most + 2,
            least + 32, most + 32, least + 256, least + 65536, most + 65536, MIN + least, MIN + most));
        found.removeIf(v -> v >= least && v <= most);
        return found;
    }

    private void addAll() {
        addTelling();
        addSeasons();
        addReading();
        addPuts();
        addPieces();
        addPrizes();
    }

    private void addFull() {
        for (int notes : new int[] {0, 1, 4095}) {
            calls.add(Call.mode(notes, 0));
            calls.add(Call.mode(notes, 15));
        }
        for (int rank = 1; rank <= 9; rank++) {
            calls.add(Call.artist(rank));
        }
        for (int mode = 0; mode < 6; mode++) {
            calls.add(Call.piece(mode, 1, 0, true));
            calls.add(Call.piece(mode, 90, 100, false));
        }
        for (int i = 0; i < 42; i++) {
            calls.add(Call.vote(i / 6, i % 6));
        }
        calls.add(Call.row(0, 1));
    }

    private void addTelling() {
        outside(0, 4095).forEach(notes -> calls.add(Call.mode(notes, 15)));
        outside(0, 15).forEach(hours -> calls.add(Call.mode(7, hours)));
        calls.add(Call.mode(-1, -1));
        outside(1, 9).forEach(rank -> calls.add(Call.artist(rank)));
        for (int artist : outside(0, artists - 1)) {
            calls.add(Call.like(artist, 0, 50));
            calls.add(Call.rival(artist, 0, true));
            calls.add(Call.rival(0, artist, true));
            calls.add(Call.rival(1, artist, false));
            calls.add(Call.ill(artist, true));
            calls.add(Call.ill(artist, false));
        }
        for (int artist = 0; artist < 6; artist++) {
            calls.add(Call.rival(artist, artist, true));
            calls.add(Call.rival(artist, artist, false));
        }
        outside(0, modes - 1).forEach(mode -> calls.add(Call.like(0, mode, 50)));
        outside(0, 100).forEach(v -> calls.add(Call.like(0, 0, v)));
        outside(0, 12).forEach(v -> calls.add(Call.set(0, v)));
        outside(0, 30).forEach(v -> calls.add(Call.set(1, v)));
        outside(0, 1).forEach(what -> calls.add(Call.set(what, 5)));
    }

    private void addSeasons() {
        for (int e : outside(1, 3)) {
            calls.add(Call.season(e, 1));
            calls.add(Call.season(1, e));
            calls.add(Call.season(e, e));
        }
        // Products that would do, or that wrap round to such.
        int[][] pairs = {{3, 3}, {6, 1}, {1, 6}, {0, 0}, {-1, -1}, {-2, -3}, {65536, 65536}, {MIN, 2}, {2, MIN},
            {3, -1431655764}, {-1431655764, 3}};
        for (int[] p : pairs) {
            calls.add(Call.season(p[0], p[1]));
        }
    }

    private void addReading() {
        for (int mode : outside(0, modes - 1)) {
            calls.add(Call.near(mode, 0));
            calls.add(Call.near(0, mode));
            calls.add(Call.near(mode, mode));
        }
        outside(0, 6).forEach(what -> calls.add(Call.count(what)));
        for (int slot : outside(0, slots - 1)) {
            calls.add(Call.at(slot, 0));
            calls.add(Call.at(slot, 1));
        }
        outside(0, 1).forEach(what -> calls.add(Call.at(0, what)));
        outside(0, told - 1).forEach(i -> calls.add(Call.told(i)));
        for (int artist : outside(0, artists - 1)) {
            calls.add(Call.points(artist));
            calls.add(Call.prize(artist));
        }
    }

    private void addPuts() {
        for (int slot : outside(0, slots - 1)) {
            calls.add(Call.put(slot, 0, 0));
            calls.add(Call.put(slot, NONE, 0));
        }
        for (int artist : outside(NONE, artists - 1)) {
            calls.add(Call.put(0, artist, 0));
        }
        for (int mode : outside(0, modes - 1)) {
            calls.add(Call.put(0, 0, mode));
            calls.add(Call.put(slots - 1, 0, mode));
        }
    }

    private void addPieces() {
        outside(0, modes - 1).forEach(mode -> calls.add(Call.piece(mode, 30, 50, true)));
        outside(1, 90).forEach(minutes -> calls.add(Call.piece(0, minutes, 50, true)));
        outside(0, 100).forEach(liking -> calls.add(Call.piece(0, 30, liking, false)));
        outside(0, pieces - 1).forEach(piece -> calls.add(Call.played(piece, 100)));
        for (int day : outside(0, 400)) {
            calls.add(Call.played(0, day));
            calls.add(Call.row(day, 300));
        }
        outside(1, 300).forEach(minutes -> calls.add(Call.row(200, minutes)));
    }

    private void addPrizes() {
        for (int judge : outside(0, 6)) {
            calls.add(Call.vote(judge, 0));
            calls.add(Call.kin(judge, 0, true));
            calls.add(Call.kin(judge, 0, false));
        }
        for (int artist : outside(0, artists - 1)) {
            calls.add(Call.vote(1, artist));
            calls.add(Call.kin(1, artist, true));
            calls.add(Call.kin(1, artist, false));
        }
    }
}
