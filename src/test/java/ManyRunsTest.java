import java.util.Random;

/** Promise 3: what must hold after every run, over many runs of words drawn by a fixed seed. */
public final class ManyRunsTest {
    private static final String[] WORDS = {"exit", "dup", "drop", "swap", "over", "rot", "nip",
        "?dup", "depth", "pick", ">r", "r>", "r@", "i", "j", "unloop", "+", "-", "*", "/", "mod",
        "u<", "0=", "1+", "@", "!", "+!", ",", "here", "allot", ".", "emit", "cr", ":", ";", ";",
        "constant", "variable", "create", "does>", "immediate", "'", "[']", "execute", "compile,",
        "literal", "postpone", "[", "]", "recurse", "if", "else", "then", "begin", "until",
        "while", "repeat", "do", "loop", "+loop", "throw", "catch", "(", ")"};
    private static final String[] NUMBERS = {"0", "1", "2", "3", "4", "5", "6", "7", "-1", "30",
        "82", "83", "390", "399", "400", "-2147483648", "2147483647"};
    private static final String[] PREPARED = {": a 1 ;", ": b ['] a catch ;", "create c",
        ": d dup if 1- recurse then ;", ": e 7 throw ;", ": f create , does> @ ;", "9 f g",
        ": h 3 0 do i loop ;", "1 2 3 4 5", "1 >r 2 >r 3 >r", "390 allot", ": k begin"};

    public static void main(String[] args) {
        Random random = new Random(20);
        for (int k = 0; k < 3000; k++) {
            playOut(random);
        }
        Desk.end();
    }

    private static void playOut(Random random) {
        WordForge one = new WordForge();
        WordForge other = new WordForge();
        for (int run = 0; run < 4; run++) {
            String text = draw(random);
            int fuel = random.nextInt(4) == 0 ? random.nextInt(60) : 3000;
            for (int k = 0; k < text.length() && k < 120; k++) {
                one.type(text.charAt(k));
                other.type(text.charAt(k));
            }
            int answer = one.run(fuel);
            Desk.due("the same calls, <" + text + ">", other.run(fuel), answer);
            Desk.due("what is wrong after <" + text + ">", fault(one, fuel, answer), "nothing");
        }
    }

    private static String draw(Random random) {
        StringBuilder text = new StringBuilder();
        int many = 1 + random.nextInt(20);
        for (int k = 0; k < many; k++) {
            int kind = random.nextInt(10);
            if (kind < 4) {
                text.append(WORDS[random.nextInt(WORDS.length)]);
            } else if (kind < 7) {
                text.append(NUMBERS[random.nextInt(NUMBERS.length)]);
            } else if (kind < 9) {
                text.append((char) ('a' + random.nextInt(8)));
            } else {
                text.append(PREPARED[random.nextInt(PREPARED.length)]);
            }
            text.append(random.nextInt(8) == 0 ? '\n' : ' ');
        }
        return text.toString();
    }

    private static String fault(WordForge forge, int fuel, int answer) {
        int[] most = {300, 30, 30, 400, 40, 1, fuel, fuel, 12};
        for (int what = 0; what < most.length; what++) {
            if (forge.count(what) < 0 || forge.count(what) > most[what]) {
                return "count " + what;
            }
        }
        int made = forge.count(4);
        boolean making = made > 0 && forge.word(made - 1, 4) == 0;
        for (int k = 0; k < made - 1; k++) {
            if (forge.word(k, 4) == 0) {
                return "an unfinished word below the latest";
            }
        }
        if (!making && (forge.count(5) != 0 || forge.count(8) != 0)) {
            return "compiling, or open things, without a word that is being made";
        }
        boolean empty = forge.count(1) == 0 && forge.count(2) == 0 && forge.count(8) == 0
                && forge.count(5) == 0 && !making;
        if (answer != 0 && !empty) {
            return "something was left by an error";
        }
        if (answer == -28 && forge.count(6) != fuel) {
            return "steps were left";
        }
        return "nothing";
    }
}
