/** Counts the answers that are not as due, and prints them. */
final class Check {
    private final String name;
    private int wrong = 0;
    private int looked = 0;
    private String part = "";

    Check(String name) {
        this.name = name;
    }

    /** Names what the next answers belong to. */
    void part(String title) {
        part = title;
    }

    void due(String call, long got, long want) {
        looked++;
        if (got != want) {
            wrong++;
            System.out.println(part + ": " + call + " answered " + got + ", due is " + want);
        }
    }

    /** A row of answers: the first is for the call with 0 as its changing argument, and so on. */
    void row(String call, long[] got, long... want) {
        due(call + " (how many)", got.length, want.length);
        for (int i = 0; i < Math.min(got.length, want.length); i++) {
            due(call + " [" + i + "]", got[i], want[i]);
        }
    }

    void end() {
        System.out.println(name + ": " + looked + " answers looked at, " + wrong + " not as due");
        if (wrong != 0 || looked == 0) {
            System.exit(1);
        }
    }
}
