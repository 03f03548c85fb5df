import java.util.NoSuchElementException;

/** Counts answers that are not as due, prints each, and ends the test with 1 if there was one. */
final class Check {
    /** What at() answers in a test when it threw. */
    static final int THREW = -1000;

    private static final int MOST_PRINTED = 50;
    private static int asked = 0;
    private static int wrong = 0;

    private Check() {
    }

    static void due(String call, long got, long want) {
        asked++;
        if (got != want) {
            fault(call + " answered " + got + ", due is " + want);
        }
    }

    static void yes(String call, boolean got) {
        due(call, got ? 1 : 0, 1);
    }

    static void no(String call, boolean got) {
        due(call, got ? 1 : 0, 0);
    }

    static void refused(String sentence, SeasonOfHours x, Call... calls) {
        for (Call call : calls) {
            due(sentence + ": " + call.text(), call.on(x), call.refusal());
        }
    }

    static void fault(String text) {
        wrong++;
        if (wrong <= MOST_PRINTED) {
            System.out.println(text);
        }
    }

    static int at(SeasonOfHours x, int slot, int what) {
        try {
            return x.at(slot, what);
        } catch (NoSuchElementException e) {
            return THREW;
        }
    }

    static void end() {
        String found = wrong == 0 ? asked + " answers, all as due" : wrong + " of " + asked + " answers are not as due";
        System.out.println(found);
        if (wrong != 0) {
            System.exit(1);
        }
    }
}
