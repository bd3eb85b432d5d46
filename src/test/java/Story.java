/**
 * Calls on one board that is used up by them, to its 512th call. They are told in words as in "law 6 0 = 1", with
 * what is due behind the sign; an exception is told without its last word. The Oracle must say so, too; where no
 * answer is told, what it says is due.
 */
final class Story {
    static final int LAST = 512;

    private final Huffboard board = new Huffboard();
    private final Oracle oracle = new Oracle();
    private final String title;
    private int calls = 0;

    Story(String title) {
        this.title = title;
    }

    /** Makes the calls that are told, one a line or with semicolons between them. */
    Story tell(String lines) {
        for (String line : lines.split("[;\n]")) {
            if (!line.isBlank()) {
                make(line.trim());
            }
        }
        return this;
    }

    Story times(int times, String lines) {
        for (int i = 0; i < times; i++) {
            tell(lines);
        }
        return this;
    }

    private void make(String line) {
        String[] parts = line.split(" = ");
        String[] words = parts[0].trim().split(" +");
        Object[] arguments = Calls.arguments(words);
        calls++;
        String what = title + ", call " + calls + ": " + line;
        String said = Calls.on(oracle, words[0], arguments).replaceAll("Exception$", "");
        String got = Calls.on(board, words[0], arguments).replaceAll("Exception$", "");
        Check.same(what, parts.length > 1 ? parts[1].trim() : said, got);
        Check.same(what + ", as the oracle says,", said, got);
    }

    int calls() {
        return calls;
    }

    /** Repeats one call until so many are left to the last one. */
    Story until(int left, String call) {
        while (calls < LAST - left) {
            tell(call);
        }
        return this;
    }

    /** What is told last must be the 512th call. */
    void end(String lines) {
        tell(lines);
        Check.same(title + ", calls", LAST, calls);
    }
}
