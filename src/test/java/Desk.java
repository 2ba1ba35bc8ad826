import java.util.Arrays;

/** A WordForge with short ways to type, run and look, and a tally of the checks that went wrong. */
final class Desk {
    static final int FULL = 3000;

    private static int checks = 0;
    private static int wrong = 0;

    final WordForge forge = new WordForge();

    /** What a call throws, or null; the call itself stands in the test. */
    interface Call {
        void make();
    }

    static void due(String what, Object got, Object want) {
        checks++;
        if (!want.equals(got)) {
            wrong++;
            System.out.println(what + " answered " + got + ", due is " + want);
        }
    }

    static void dueThrow(String what, Class<? extends RuntimeException> want, Call call) {
        Class<?> got = null;
        try {
            call.make();
        } catch (RuntimeException e) {
            got = e.getClass();
        }
        due(what + " (what it throws)", String.valueOf(got), String.valueOf(want));
    }

    /** The last line of every test. */
    static void end() {
        System.out.println(checks + " checks, " + wrong + " wrong");
        if (wrong != 0) {
            System.exit(1);
        }
    }

    /** A new desk on which the text has been run, which must answer 0. */
    static Desk after(String text) {
        return new Desk().answers(text, 0);
    }

    Desk type(String text) {
        for (int k = 0; k < text.length(); k++) {
            due("type of character " + k + " of <" + text + ">", forge.type(text.charAt(k)), true);
        }
        return this;
    }

    Desk answers(String text, int want) {
        return answers(text, FULL, want);
    }

    Desk answers(String text, int fuel, int want) {
        type(text);
        due("run(" + fuel + ") of <" + text + ">", forge.run(fuel), want);
        return this;
    }

    Desk stack(int... want) {
        int[] got = new int[forge.count(1)];
        for (int k = 0; k < got.length; k++) {
            got[k] = forge.stack(k);
        }
        due("the stack", Arrays.toString(got), Arrays.toString(want));
        return this;
    }

    Desk cells(int from, int... want) {
        int[] got = new int[want.length];
        for (int k = 0; k < got.length; k++) {
            got[k] = forge.cell(from + k);
        }
        due("the cells from " + from, Arrays.toString(got), Arrays.toString(want));
        return this;
    }

    Desk wrote(String want) {
        StringBuilder got = new StringBuilder();
        for (int k = 0; k < forge.count(0); k++) {
            got.append(forge.output(k));
        }
        due("the output", got.toString(), want);
        return this;
    }

    Desk count(int what, int want) {
        due("count(" + what + ")", forge.count(what), want);
        return this;
    }

    Desk word(int k, int what, int want) {
        due("word(" + k + ", " + what + ")", forge.word(k, what), want);
        return this;
    }

    /** The error that a CATCH gets when it carries out the word of this name, above these numbers. */
    static void caught(String before, String name, String behind, int want) {
        Desk desk = after(before + " ' " + name + " catch " + behind);
        int top = desk.forge.stack(desk.forge.count(1) - 1);
        due("the error of " + name + " after <" + before + ">", top, want);
    }

    static String times(int many, String text) {
        return text.repeat(many);
    }
}
