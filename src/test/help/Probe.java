import java.util.ArrayList;
import java.util.List;

/**
 * Rows of calls whose answers show all that a season holds: what is read, what best(), mend() and
 * row() make of it, and what comes to light once there are as many modes, artists and pieces as there
 * can be. Two seasons that answer every row alike are alike for whoever calls them.
 */
final class Probe {
    private static final int NONE = -1;
    private static final int[] MINUTES = {9, 50, 120, 200, 240, 300};

    private Probe() {
    }

    static List<List<Call>> rows() {
        return List.of(reading(), likings(), clashes(), pieces(), prizes());
    }

    static int[] answers(List<Call> row, SeasonOfHours x) {
        int[] answers = new int[row.size()];
        for (int i = 0; i < answers.length; i++) {
            answers[i] = row.get(i).on(x);
        }
        return answers;
    }

    private static List<Call> reading() {
        List<Call> row = new ArrayList<>();
        for (int what = 0; what < 7; what++) {
            row.add(Call.count(what));
        }
        for (int i = 0; i < 10; i++) {
            row.add(Call.told(i));
        }
        for (int i = 0; i < 6; i++) {
            row.add(Call.points(i));
            row.add(Call.prize(i));
        }
        for (int i = 0; i < 36; i++) {
            row.add(Call.near(i / 6, i % 6));
        }
        row.add(Call.wrong());
        addSlots(row);
        row.add(Call.mend());
        addSlots(row);
        row.add(Call.best());
        addSlots(row);
        for (int minutes : MINUTES) {
            addRow(row, 200, minutes);
        }
        return row;
    }

    private static void addSlots(List<Call> row) {
        for (int slot = 0; slot < 6; slot++) {
            row.add(Call.at(slot, 0));
            row.add(Call.at(slot, 1));
        }
    }

    /** Were a full season to take one more, this would hide it: so reading() does without. */
    private static List<Call> filledUp() {
        List<Call> row = new ArrayList<>();
        for (int i = 0; i < 6; i++) {
            row.add(Call.mode(1 << 2 * i, 15));
            row.add(Call.artist(5));
        }
        for (int i = 0; i < 10; i++) {
            row.add(Call.piece(i % 6, 7, 3 + i, i % 4 == 0));
        }
        return row;
    }

    /** Each liking, and who is ill. */
    private static List<Call> likings() {
        List<Call> row = filledUp();
        row.add(Call.season(1, 1));
        for (int i = 0; i < 36; i++) {
            row.add(Call.put(0, i / 6, i % 6));
            row.add(Call.count(4));
            row.add(Call.wrong());
        }
        return row;
    }

    /** The LIMIT, each mode's hours, who is whose rival and whose rank is greater. */
    private static List<Call> clashes() {
        List<Call> row = filledUp();
        row.add(Call.set(0, 12));
        for (int artist = 0; artist < 6; artist++) {
            row.add(Call.ill(artist, false));
            for (int mode = 0; mode < 6; mode++) {
                row.add(Call.like(artist, mode, 1));
            }
        }
        row.add(Call.season(1, 3));
        for (int i = 0; i < 18; i++) {
            row.add(Call.put(i % 3, 0, i / 3));
            row.add(Call.wrong());
            row.add(Call.put(i % 3, NONE, 0));
        }
        for (int i = 0; i < 36; i++) {
            row.add(Call.put(0, i / 6, 0));
            row.add(Call.put(1, i % 6, 1));
            row.add(Call.wrong());
        }
        return row;
    }

    private static List<Call> pieces() {
        List<Call> row = filledUp();
        for (int day : new int[] {0, 3, 6, 30, 46, 77, 96, 105, 120, 154, 195, 229, 269, 331, 361, 399}) {
            addRow(row, day, 300);
        }
        for (int minutes : MINUTES) {
            addRow(row, 200, minutes);
        }
        row.add(Call.set(1, 7));
        return row;
    }

    private static void addRow(List<Call> row, int day, int minutes) {
        row.add(Call.row(day, minutes));
        for (int i = 0; i < 10; i++) {
            row.add(Call.told(i));
        }
    }

    /** Each judge's row, by what the artists lose as the judge becomes their kin. */
    private static List<Call> prizes() {
        List<Call> row = filledUp();
        for (int i = 0; i < 42; i++) {
            row.add(Call.vote(i / 6, i % 6));
        }
        for (int i = 0; i < 42; i++) {
            row.add(Call.points(i % 6));
            row.add(Call.kin(i / 6, i % 6, true));
            row.add(Call.points(i % 6));
        }
        return row;
    }
}
