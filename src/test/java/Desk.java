import java.util.Arrays;

/** A WordForge with short ways to type, run and look, and a tally of the checks that went wrong. */
final class Desk {
    static final int FULL = 3000;
    static final int LEAST = Integer.MIN_VALUE;
    static final int MOST = Integer.MAX_VALUE;
    static final String FULL_STACK = times(30, "1 ");
    static final String ALMOST_FULL_STACK = times(29, "1 ");
    static final String FULL_STORE = times(30, "1 >r ");
    static final String ALMOST_FULL_STORE = times(29, "1 >r ");
    /** Makes the word a of the last cell alone: behind it, the place of its call is no cell. */
    static final String LAST_CELL = "399 allot : a [ -399 allot ] ; ";
    /** The words by their numbers; those without a name are empty. */
    static final String[] NAMES = {"exit", "", "", "", "", "", "", "", "dup", "drop", "swap",
        "over", "rot", "nip", "?dup", "depth", "pick", ">r", "r>", "r@", "i", "j", "unloop", "+", "-", "*",
        "/", "mod", "negate", "abs", "min", "max", "and", "or", "xor", "invert", "=", "<", "u<",
        "0=", "0<", "1+", "1-", "2*", "@", "!", "+!", ",", "here", "allot", ".", "emit", "cr", ":", ";",
        "constant", "variable", "create", "does>", "immediate", "'", "[']", "execute", "compile,",
        "literal", "postpone", "[", "]", "recurse", "if", "else", "then", "begin", "until", "while",
        "repeat", "do", "loop", "+loop", "throw", "catch", "("};
    private static final String IMMEDIATE = " ; does> ['] literal postpone [ recurse if else then"
            + " begin until while repeat do loop +loop ( ";
    private static final int MOST_CALLS = 512;

    private static int checks = 0;
    private static int wrong = 0;

    final WordForge forge = new WordForge();
    private int calls = 0;

    /** What a call throws, or null; the call itself stands in the test. */
    interface Call {
        void make();
    }

    static void due(String what, Object got, Object want) {
        checks++;
        if (!want.equals(got)) {
            wrong++;
            System.out.println(what + " answered " + got + ", due is " + want);
        }
    }

    static void dueThrow(String what, Class<? extends RuntimeException> want, Call call) {
        Class<?> got = null;
        try {
            call.make();
        } catch (RuntimeException e) {
            got = e.getClass();
        }
        due(what + " (what it throws)", String.valueOf(got), String.valueOf(want));
    }

    /** The last line of every test. */
    static void end() {
        System.out.println(checks + " checks, " + wrong + " wrong");
        if (wrong != 0) {
            System.exit(1);
        }
    }

    /** A new desk on which the text has been run, which must answer 0. */
    static Desk after(String text) {
        return new Desk().answers(text, 0);
    }

    /** What an object answers behind its 512th call is free, so no test may ask it then. */
    private void use(int more) {
        calls += more;
        if (calls > MOST_CALLS) {
            due("the calls of one object", calls, "at most " + MOST_CALLS);
        }
    }

    Desk type(String text) {
        use(text.length());
        for (int k = 0; k < text.length(); k++) {
            due("type of character " + k + " of <" + text + ">", forge.type(text.charAt(k)), true);
        }
        return this;
    }

    Desk answers(String text, int want) {
        return answers(text, FULL, want);
    }

    Desk answers(String text, int fuel, int want) {
        type(text);
        use(1);
        due("run(" + fuel + ") of <" + text + ">", forge.run(fuel), want);
        return this;
    }

    Desk stack(int... want) {
        due("the stack", Arrays.toString(numbers()), Arrays.toString(want));
        return this;
    }

    Desk cells(int from, int... want) {
        use(want.length);
        int[] got = new int[want.length];
        for (int k = 0; k < got.length; k++) {
            got[k] = forge.cell(from + k);
        }
        due("the cells from " + from, Arrays.toString(got), Arrays.toString(want));
        return this;
    }

    Desk wrote(String want) {
        due("the output", output(), want);
        return this;
    }

    Desk count(int what, int want) {
        use(1);
        due("count(" + what + ")", forge.count(what), want);
        return this;
    }

    Desk word(int k, int what, int want) {
        use(1);
        due("word(" + k + ", " + what + ")", forge.word(k, what), want);
        return this;
    }

    /** The text leaves this number, on an empty stack as well as above another one. */
    static void gives(String text, int want) {
        after(text).stack(want);
        after("99 " + text).stack(99, want);
    }

    static boolean isImmediate(String name) {
        return IMMEDIATE.contains(" " + name + " ");
    }

    /** Above these numbers a CATCH carries out the word of this name, and gets this error. */
    static void caught(String before, String name, String behind, int want) {
        Desk desk = after(before + " ' " + name + " catch " + behind);
        int top = desk.forge.stack(desk.forge.count(1) - 1);
        due("the error of " + name + " after <" + before + ">", top, want);
    }

    /**
     * Behind the setup a CATCH carries the word out: it meets the error and has changed nothing.
     * What stands behind it in the text is only the name that it parses, if it comes to that.
     */
    static void meets(String setup, String name, String behind, int error) {
        changesNothing(setup, "' " + name + " catch " + behind, error);
    }

    /** The same with a word that is carried out while the word a is compiled. */
    static void meetsCompiling(String setup, String inside, String name, String behind, int error) {
        String catcher = ": t ['] " + name + " catch ; immediate ";
        changesNothing(catcher + setup + " : a " + inside + " ", "t " + behind, error);
    }

    private static void changesNothing(String setup, String text, int error) {
        Desk untouched = after(setup);
        Desk touched = after(setup).answers(text, 0);
        int[] numbers = touched.numbers();
        boolean one = numbers.length > 0;
        String what = "<" + text + "> after <" + setup + ">";
        due("the error of " + what, one ? numbers[numbers.length - 1] : "none", error);
        int[] below = Arrays.copyOf(numbers, one ? numbers.length - 1 : 0);
        due("the stack below it, of " + what, Arrays.toString(below),
                Arrays.toString(untouched.numbers()));
        due("the state after " + what, touched.state(), untouched.state());
        due("the store after " + what, touched.emptyStore(), untouched.emptyStore());
    }

    int[] numbers() {
        int[] numbers = new int[forge.count(1)];
        use(1 + numbers.length);
        for (int k = 0; k < numbers.length; k++) {
            numbers[k] = forge.stack(k);
        }
        return numbers;
    }

    /** What can be seen besides the stack, the output, and what is counted anew with each run. */
    private String state() {
        StringBuilder state = new StringBuilder();
        for (int what : new int[] {2, 3, 4, 5, 8}) {
            state.append(forge.count(what)).append(' ');
        }
        int made = forge.count(4);
        for (int k = made < 3 ? 0 : made - 3; k < made; k++) {
            for (int what = 0; what <= 4; what++) {
                state.append(forge.word(k, what)).append(what == 4 ? ';' : ',');
            }
        }
        // all 400 would be more calls than an object has
        for (int a = 0; a < 20; a++) {
            state.append(' ').append(forge.cell(a)).append(' ').append(forge.cell(399 - a));
        }
        use(61);
        return state.toString();
    }

    /** The numbers of the store from its top, which can be seen only as they are taken from it. */
    String emptyStore() {
        use(2);
        answers("[ " + times(forge.count(1), "drop "), 0);
        answers(times(forge.count(2), "r> . "), 0);
        return output();
    }

    String output() {
        char[] got = new char[forge.count(0)];
        use(1 + got.length);
        for (int k = 0; k < got.length; k++) {
            got[k] = forge.output(k);
        }
        return new String(got);
    }

    static String times(int many, String text) {
        return text.repeat(many);
    }

    static int checks() {
        return checks;
    }

    static int wrong() {
        return wrong;
    }
}
