/** The boundary cases of errors, CATCH and the ends of runs, sentence by sentence. */
public final class ErrorSentencesTest {
    private static final String[] FAR = {"-1", "400", "-2147483648", "2147483647"};
    private static final String[] NO_WORD = {"-1", "82", "-2147483648", "2147483647"};
    private static final String[] OF_ONE = {"dup", "drop", "?dup", "pick", ">r", "negate", "abs",
        "invert", "0=", "0<", "1+", "1-", "2*", "@", ",", "allot", ".", "emit", "execute",
        "compile,", "throw", "catch"};
    private static final String[] OF_TWO = {"swap", "over", "nip", "+", "-", "*", "/", "mod", "min",
        "max", "and", "or", "xor", "=", "<", "u<", "!", "+!"};

    public static void main(String[] args) {
        stackErrors();
        storeErrors();
        otherErrors();
        order();
        orderOfTheLast();
        changedNothing();
        caught();
        noted();
        endOfRun();
        endOfWord();
        Sentence.end();
    }

    private static void stackErrors() {
        Sentence.holds("-3 a 31st number on the stack", () -> {
            String[] texts = {"dup", "over", "?dup", "depth", "here", "' dup", "7"};
            for (String name : texts) {
                new Desk().answers(Desk.FULL_STACK + name, -3).stack();
                Desk.after(Desk.ALMOST_FULL_STACK + name).count(1, 30);
            }
            for (String name : new String[] {"r>", "r@", "i", "j"}) {
                String three = "1 >r 2 >r 3 >r ";
                new Desk().answers(three + Desk.FULL_STACK + name, -3).stack().count(2, 0);
                Desk.after(three + Desk.ALMOST_FULL_STACK + name).count(1, 30);
            }
            String[] words = {"create x ", "variable x ", "5 constant x ", ": x 5 ; "};
            for (String made : words) {
                new Desk().answers(made + Desk.FULL_STACK + "x", -3).stack();
                Desk.after(made + Desk.ALMOST_FULL_STACK + "x").count(1, 30);
            }
        });
        Sentence.holds("-4 too few on it", () -> {
            for (String name : OF_ONE) {
                new Desk().answers(name, -4).stack();
                Desk.meets("5 >r", name, "", -4);
            }
            for (String name : OF_TWO) {
                new Desk().answers(name, -4);
                new Desk().answers("0 " + name, -4).stack();
                Desk.meets("5", name, "", -4);
            }
            // with as many as they take, they ask for something else, or for nothing
            for (String name : OF_ONE) {
                Desk.due("-4 of 0 " + name, answer("0 " + name) == -4, name.equals("pick"));
            }
            for (String name : OF_TWO) {
                Desk.due("-4 of 0 0 " + name, answer("0 0 " + name) == -4, false);
            }
            Desk.meets("", "rot", "", -4);
            Desk.meets("5 6", "rot", "", -4);
            Desk.after("5 6 7 rot").stack(6, 7, 5);
            Desk.meets("", "constant", "", -4);
            Desk.meetsCompiling("", "", "literal", "", -4);
            new Desk().answers(": a [ 3 , 0 , ] ; a", -4);
            new Desk().answers(": a [ 4 , ] ; 1 a", -4);
            new Desk().answers(": a [ 6 , 0 , ] ; 1 >r 1 >r a", -4);
        });
    }

    private static int answer(String text) {
        return new Desk().type(text).forge.run(Desk.FULL);
    }

    private static void storeErrors() {
        Sentence.holds("-5 a 31st in the store or a 31st call", () -> {
            new Desk().answers(Desk.FULL_STORE + "7 >r", -5).count(2, 0);
            Desk.meets(Desk.FULL_STORE + "7", ">r", "", -5);
            Desk.after(Desk.ALMOST_FULL_STORE + "7 >r").count(2, 30);
            // 4 puts two there at once
            String loop = ": a [ 4 , ] ; ";
            Desk.meets(loop + Desk.ALMOST_FULL_STORE + "7 8", "a", "", -5);
            Desk.after(loop + Desk.times(28, "1 >r ") + "7 8 a").count(2, 30);
            // calls, and a CATCH is one in their row
            new Desk().answers(": a recurse ; a", -5).count(6, 34);
            new Desk().answers(": a 1+ dup 31 < if recurse then ; 0 a", -5);
            Desk.after(": a 1+ dup 30 < if recurse then ; 0 a").stack(30);
            Desk.after(": a 1+ dup 29 < if recurse then ; 0 ' a catch").stack(29, 0);
            Desk.after(": a 1+ dup 30 < if recurse then ; 0 ' a catch").stack(29, -5);
            new Desk().answers(": a 1+ dup 30 < if recurse else ['] cr catch then ; 0 a", -5);
            Desk.after(": a 1+ dup 29 < if recurse else ['] cr catch then ; 0 a").stack(29, 0);
        });
        Sentence.holds("-6 too few in the store", () -> {
            for (String name : new String[] {"r>", "r@", "i"}) {
                new Desk().answers("5 " + name, -6).stack();
                Desk.meets("5", name, "", -6);
            }
            Desk.meets("5 1 >r 2 >r", "j", "", -6);
            Desk.after("1 >r 2 >r 3 >r j").stack(1);
            Desk.meets("5 1 >r", "unloop", "", -6);
            Desk.after("1 >r 2 >r unloop").count(2, 0);
            Desk.meets(": a [ 5 , 0 , ] ; 1 >r", "a", "", -6);
            Desk.meets(": a [ 6 , 0 , ] ; 1 >r 7", "a", "", -6);
        });
    }

    private static void otherErrors() {
        Sentence.holds("-9 an address that is no cell", () -> {
            for (String address : FAR) {
                new Desk().answers(address + " @", -9);
                Desk.meets("5 " + address, "@", "", -9);
                Desk.meets("5 " + address, "!", "", -9);
                Desk.meets("5 " + address, "+!", "", -9);
            }
            for (String address : new String[] {"0", "399"}) {
                Desk.after("5 " + address + " ! 6 " + address + " +! " + address + " @").stack(11);
            }
        });
        Sentence.holds("or a number that is no word's", () -> {
            for (String number : NO_WORD) {
                new Desk().answers(number + " execute", -9);
                Desk.meets("5 " + number, "execute", "", -9);
                Desk.meets("5 " + number, "catch", "", -9);
                Desk.meets("5 " + number, "compile,", "", -9);
            }
            Desk.after("create x 82 execute 82 compile, 82 catch").stack(0, 0, 0).cells(0, 82);
            Desk.meets("create x 83", "execute", "", -9);
            Desk.meets("create x 83", "catch", "", -9);
            Desk.meets("create x 83", "compile,", "", -9);
            // one that is being made is a word
            Desk.after(": a exit [ 82 execute 82 catch").stack(0);
        });
        Sentence.holds("-10 division by 0", () -> {
            new Desk().answers("7 0 /", -10).stack();
            new Desk().answers("0 0 mod", -10).stack();
            Desk.meets("7 0", "/", "", -10);
            Desk.meets("-2147483648 0", "mod", "", -10);
            Desk.after("0 7 / 0 7 mod").stack(0, 0);
        });
    }

    private static void order() {
        Sentence.holds("A word asks in this order: -14, -4", () -> {
            new Desk().answers("literal", -14);
            for (int number : new int[] {3, 4, 6}) {
                new Desk().answers(number + " execute", -14);
                Desk.after(number + " catch").stack(-14);
            }
        });
        Sentence.holds("A word asks in this order: -14, -4, -6", () -> {
            new Desk().answers("5 execute", -14);
            new Desk().answers("1 6 execute", -14);
            new Desk().answers(": a [ 6 , 0 , ] ; a", -4);
            new Desk().answers(": a [ 6 , 0 , ] ; 1 a", -6);
        });
        Sentence.holds("-14, -4, -6, then for what is said of it", () -> {
            // -14 first: neither is the name parsed, nor are the open things looked at
            Desk.meets(": a if [", ";", "", -14);
            Desk.meets(": a begin [", "then", "", -14);
            Desk.meets("5", "[']", "", -14);
            Desk.after("' ['] catch dup").stack(-14, -14);
            Desk.after("' postpone catch dup").stack(-14, -14);
            Desk.after("create x 7 catch").stack(-14);
            new Desk().answers("1 constant x 7 execute", -14);
            // -4 first
            Desk.meets(": a [", "constant", "", -4);
            Desk.after("' constant catch dup").stack(-4, -4);
            // -6 first
            Desk.meets(Desk.LAST_CELL + "5 399 !", "a", "", -6);
            Desk.meets(Desk.LAST_CELL + "6 399 ! 1", "a", "", -6);
            Desk.meets(Desk.LAST_CELL + "3 399 !", "a", "", -4);
        });
        Sentence.holds("then for what is said of it, in its order", () -> {
            // -29, and only then the name
            Desk.meets(": a [", ":", "", -29);
            Desk.after(": a [ ' create catch 5").stack(-29, 5);
            Desk.after(": a [ ' variable catch 1234567890 drop").stack(-29);
            Desk.after(": a [ 7 ' constant catch 5").stack(7, -29, 5);
            // the name, and only then what it means
            Desk.meets("5", "'", "abcdefghij", -19);
            Desk.meets("5", "'", "abcdefghi", -13);
        });
    }

    private static void orderOfTheLast() {
        Sentence.holds("in its order, then -9, -10, -3, -5, -8", () -> {
            // what is said comes before -3 and -8
            new Desk().answers(Desk.FULL_STACK + "' oops", -13);
            new Desk().answers(Desk.FULL_STACK + "'", -16);
            new Desk().answers(Desk.FULL_STACK + "' abcdefghij", -19);
            new Desk().answers("400 allot : a ['] oops", -13);
            new Desk().answers("400 allot : a postpone oops", -13);
            new Desk().answers("400 allot : a postpone", -16);
            new Desk().answers("400 allot variable", -16);
            new Desk().answers("400 allot variable abcdefghij", -19);
            new Desk().answers("400 allot : a [ variable b", -29);
            new Desk().answers("398 allot : a if ;", -22);
            new Desk().answers("400 allot : a then", -22);
            new Desk().answers("400 allot : a " + Desk.times(12, "begin ") + "if", -22);
            new Desk().answers("398 allot : a if until", -22);
            // -9 before -3, -5 and -8
            new Desk().answers(Desk.LAST_CELL + "1 399 ! " + Desk.FULL_STACK + "a", -9);
            new Desk().answers(": a 1+ dup 30 < if recurse else 999 catch then ; 0 a", -9);
            new Desk().answers("400 allot 99 compile,", -9);
            // -3 before -5
            Desk.after(": k create does> ; k x : r x recurse ; 1 2 ' r catch").stack(1, 2, -3);
        });
    }

    private static void changedNothing() {
        Sentence.holds("if it meets one it has changed nothing", () -> {
            Desk.meets("5 6 9", "pick", "", -4);
            Desk.meets("5 401", "allot", "", -8);
            Desk.meets("400 allot 5 6", ",", "", -8);
            Desk.meets("create x : a ; 5", "]", "", -14);
            Desk.meets("5", "immediate", "", -32);
            // two or three cells, of which not all are free
            String atLast = "[ 399 here - allot ]";
            for (String name : new String[] {"if", "begin while", "begin until", "do loop",
                "do +loop", "if else", "begin while repeat"}) {
                int space = name.lastIndexOf(' ');
                Desk.meetsCompiling("", name.substring(0, space < 0 ? 0 : space) + " " + atLast,
                        name.substring(space + 1), "", -8);
            }
            Desk.meetsCompiling("5", atLast, "literal", "", -8);
            Desk.meetsCompiling("", "[ 400 here - allot ]", "do", "", -8);
            Desk.meetsCompiling("", "[ 400 here - allot ]", ";", "", -8);
            Desk.meetsCompiling("", "[ 400 here - allot ]", "does>", "", -8);
            Desk.meetsCompiling("", "[ 400 here - allot ]", "recurse", "", -8);
            Desk.meetsCompiling("", "begin", ";", "", -22);
            Desk.meetsCompiling("", "begin", "then", "", -22);
            Desk.meetsCompiling("", Desk.times(12, "begin "), "while", "", -22);
            // inside of a call
            Desk.after(": t 7 r> ; 8 >r " + Desk.ALMOST_FULL_STACK + "' t catch").count(2, 1);
            Desk.meets(": k [ 7 , ] ; create x 1 constant c", "k", "", -32);
            Desk.meets(": k create does> ; k x : a 7 x ; " + Desk.ALMOST_FULL_STACK, "a", "", -3);
            // x is the call that finds no place; its own place is not put on the stack either
            Desk.after(": k create does> ; k x : r 1+ dup 29 = if drop x then recurse ; "
                    + "5 0 ' r catch").stack(5, 0, -5);
        });
        Sentence.holds("(but a name that it parsed is gone from the text).", () -> {
            Desk.meets("5", "'", "oops", -13);
            Desk.meets("5", "'", "abcdefghij", -19);
            Desk.meets("5", ":", "abcdefghij", -19);
            Desk.meets("5", "create", "abcdefghij", -19);
            Desk.meets("5", "variable", "abcdefghij", -19);
            Desk.meets("5", "constant", "abcdefghij", -19);
            Desk.meets("400 allot 5", "constant", "x", -8);
            Desk.meets("400 allot 5", "variable", "x", -8);
            Desk.meetsCompiling("5", "", "[']", "oops", -13);
            Desk.meetsCompiling("5", "", "postpone", "abcdefghij", -19);
            Desk.meetsCompiling("5", "[ 399 here - allot ]", "[']", "dup", -8);
            Desk.meetsCompiling("5", "[ 398 here - allot ]", "postpone", "dup", -8);
            Desk.meetsCompiling("5", "[ 400 here - allot ]", "postpone", "if", -8);
            // with the stack full the name of ' goes, too
            Desk.after(": t 7 ' ; " + Desk.ALMOST_FULL_STACK + "' t catch oops drop").count(1, 29);
        });
    }

    private static void caught() {
        Sentence.holds("When an error is met, with a CATCH in the row of calls: all behind the"
                + " latest CATCH ends, and it, too", () -> {
            Desk.after(": t 7 throw 8 ; : u t 9 ; 1 ' u catch 2").stack(1, 7, 2).count(7, 1);
            // the latest of two gets it, and not the next one
            String two = ": t 7 throw ; : u ['] t catch ";
            Desk.after(two + "; ' u catch").stack(7, 0).count(7, 1);
            Desk.after(two + "drop 8 throw ; ' u catch").stack(8).count(7, 2);
            new Desk().answers(two + "throw ; u", 7).count(7, 1);
            // a CATCH that is done gets nothing any more
            new Desk().answers("' cr catch 7 throw", 7).count(7, 0).stack();
            // thirty calls that have ended make room for thirty others
            Desk.after(": a recurse ; ' a catch ' a catch").stack(-5, -5).count(7, 2);
            // what is being made stays, with its open things, and so does the text
            Desk.after(": t 7 throw ; immediate : m ['] t catch ; immediate : a if m then")
                    .stack(7).count(5, 1).count(8, 0).count(4, 3);
        });
        Sentence.holds("and the error is put on the stack.", () -> {
            // there is always room for it, as CATCH took its word's number
            Desk.after(": t " + Desk.times(2, "1 ") + "; " + Desk.ALMOST_FULL_STACK + "' t catch")
                    .count(1, 30).count(7, 1);
            Desk.after("-2147483648 ' throw catch").stack(0, Desk.LEAST);
        });
    }

    private static void noted() {
        Sentence.holds("stack and store get as many numbers as it noted (the upper ones go", () -> {
            Desk.after(": t 4 5 6 7 throw ; 1 2 ' t catch").stack(1, 2, 7);
            Desk.after(": t 4 5 7 throw ; ' t catch").stack(7);
            Desk desk = Desk.after(": t 4 >r 5 >r 7 throw ; 1 >r 2 >r ' t catch").stack(7);
            desk.count(2, 2).answers("r> r>", 0).stack(7, 2, 1);
            Desk.after(": t 4 >r 7 throw ; ' t catch").stack(7).count(2, 0);
            // only how many there were was noted, not which
            Desk.after(": t drop 9 7 throw ; 1 2 3 ' t catch").stack(1, 2, 9, 7);
        });
        Sentence.holds("0 for such as are not there any more)", () -> {
            Desk.after(": t drop drop 7 throw ; 1 2 3 ' t catch").stack(1, 0, 0, 7);
            Desk.after(": t drop drop drop 7 throw ; 1 2 3 ' t catch").stack(0, 0, 0, 7);
            Desk.after("1 5 ' throw catch").stack(1, 0, 5);
            Desk.after("1 2 drop 5 ' throw catch").stack(1, 0, 5);
            Desk desk = Desk.after(": t r> r> 7 throw ; 1 >r 2 >r 3 >r ' t catch").stack(7);
            desk.count(2, 3).answers("r> r> r>", 0).stack(7, 0, 0, 1);
            // what execute took is gone, too, when its word meets the error
            Desk.after("9 ' execute catch").stack(0, -4);
        });
    }

    private static void endOfRun() {
        Sentence.holds("Otherwise the run ends with it: stack, store, calls and open things are"
                + " empty", () -> {
            Desk desk = new Desk().answers("1 2 >r : a begin if oops", -13).stack();
            desk.count(1, 0).count(2, 0).count(8, 0);
            desk.answers("r>", -6).answers("drop", -4);
            // nothing of the calls goes on in the next run
            desk = new Desk().answers(": a 5 throw 8 . ; : b a 9 . ; b", 5);
            desk.answers("", 0).stack().wrote("").answers("7", 0).stack(7).wrote("");
            desk = new Desk().answers(": a recurse ; a", -5);
            desk.answers(": b 1+ dup 30 < if recurse then ; 0 b", 0).stack(30);
            desk = new Desk().answers(": a begin 0 until ; ' a catch", 20, -28);
            desk.answers("exit", -14).answers("5 throw", 5).count(7, 0);
        });
        Sentence.holds("one is not compiling any more, the rest of the text goes", () -> {
            Desk desk = new Desk().answers(": a oops 5 6", -13).count(5, 0).answers("", 0).stack();
            desk.answers("7", 0).stack(7).count(3, 0);
            new Desk().answers("oops 1 2 3", -13).answers("4", 0).stack(4);
            new Desk().answers("cr 1 2 3", 0, -28).answers("4", 0).stack(4);
            // there is room for 200 characters again
            new Desk().answers("x" + Desk.times(199, " "), -13)
                    .answers(Desk.times(199, " ") + "5", 0).stack(5);
        });
    }

    private static void endOfWord() {
        Sentence.holds("and a word that is being made goes, too (HERE is where it was when this was"
                + " begun).", () -> {
            Desk desk = new Desk().answers("3 allot : a 1 2 oops", -13).count(3, 3);
            desk.count(4, 0).cells(3, 1, 1, 1, 2).answers("a", -13).answers("]", -14);
            new Desk().answers("3 allot : a [ 50 allot oops", -13).count(3, 3).count(4, 0);
            new Desk().answers("3 allot : a [ -2 allot oops", -13).count(3, 3).count(4, 0);
            new Desk().answers("3 allot : a", 0).answers("5", 0).answers("oops", -13)
                    .count(3, 3).count(4, 0);
            new Desk().answers("3 allot : a 5 [ cr", 3, -28).count(3, 3).count(4, 0);
            // a finished one stays, and HERE with it
            new Desk().answers(": a 5 ; 3 allot oops", -13).count(3, 6).count(4, 1);
            new Desk().answers("variable v 3 allot oops", -13).count(3, 4).count(4, 1);
            new Desk().answers(": a ; : b oops", -13).count(3, 1).count(4, 1).word(0, 4, 1);
            // and so does what was stored and made immediate before
            desk = new Desk().answers(": a 9 300 ! [ 8 301 ! immediate oops", -13);
            desk.cells(300, 0, 8).answers(": a ;", 0).word(0, 2, 0).word(0, 3, -1);
        });
    }
}
