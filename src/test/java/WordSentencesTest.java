/** The boundary cases of the words 0 .. 52, sentence by sentence. */
public final class WordSentencesTest {

    public static void main(String[] args) {
        comingBack();
        behindTheWord();
        loops();
        loopsAround();
        behaviour();
        withoutPlace();
        stack();
        pick();
        store();
        sums();
        division();
        comparing();
        memory();
        writing();
        Sentence.end();
    }

    private static void comingBack() {
        Sentence.holds("0 exit: the call comes back.", () -> {
            Desk.after(": a 1 exit 2 ; a").stack(1);
            Desk.after(": a exit ; : b a 3 ; b 4").stack(3, 4);
            Desk.after(": a 5 0 execute 6 ; a").stack(5);
            // also from the last cell
            Desk.after(Desk.LAST_CELL + "0 399 ! a 5").stack(5);
        });
        Sentence.holds("(0 .. 7: -14 when the latest of the row of calls is a CATCH, or there is"
                + " none", () -> {
            for (int number = 0; number <= 7; number++) {
                new Desk().answers("create x 1 >r 2 >r 3 4 " + number + " execute", -14);
                Desk.after("create x 1 >r 2 >r 3 4 " + number + " catch").stack(3, 4, -14)
                        .count(2, 2).word(0, 3, -1);
                // a CATCH inside of a call hides the call
                Desk.after("create x : a [ 1 , " + number + " , ] catch ; 3 4 a")
                        .stack(3, 4, -14);
            }
            Desk.after("' exit catch").stack(-14);
        });
    }

    private static void behindTheWord() {
        Sentence.holds("1 the number at the call's place is put on the stack, and passed"
                + " over.", () -> {
            Desk.after(": a -2147483648 2147483647 0 ; a").stack(Desk.LEAST, Desk.MOST, 0);
            Desk.after(": a 1 execute [ 77 , ] 5 ; a").stack(77, 5);
            new Desk().answers(": a 5 ; " + Desk.FULL_STACK + "a", -3);
            Desk.after(": a 5 ; " + Desk.ALMOST_FULL_STACK + "a").count(1, 30);
            // the number may stand in the last cell, where no more of the call follows
            new Desk().answers("398 allot : a [ -398 allot ] ; 1 398 ! 77 399 ! a", -9)
                    .count(6, 10);
        });
        Sentence.holds("2: the call goes on at the place that this number says.", () -> {
            Desk.after(": a [ 2 , 399 , ] 5 ; a").stack();
            Desk.after(": z 6 ; : a [ 2 , 0 , ] 5 ; a").stack(6);
            new Desk().answers(": a [ 2 , 400 , ] 5 ; a", -9);
            new Desk().answers(": a [ 2 , -1 , ] 5 ; a", -9);
            new Desk().answers(": a [ 2 , 0 , ] ; a", 100, -28).count(6, 100);
        });
        Sentence.holds("3 a --: likewise, if a is 0; else it is passed over.", () -> {
            String jump = ": a [ 3 , 399 , ] 5 ; ";
            Desk.after(jump + "0 a").stack();
            for (String other : new String[] {"1", "-1", "-2147483648", "2147483647"}) {
                Desk.after(jump + other + " a").stack(5);
            }
            new Desk().answers(jump + "a", -4);
            // where it does not go is not asked for
            Desk.after(": a [ 3 , 400 , ] 5 ; 1 a").stack(5);
            new Desk().answers(": a [ 3 , 400 , ] 5 ; 0 a", -9);
        });
        Sentence.holds("4 a b --: a and b into the store.", () -> {
            String enter = ": a [ 4 , ] ; ";
            Desk.after(enter + "7 8 a r> r>").stack(8, 7);
            Desk.after(enter + "6 7 8 a").stack(6).count(2, 2);
            new Desk().answers(enter + "7 a", -4);
            Desk.after(enter + Desk.times(28, "1 >r ") + "7 8 a").count(2, 30).stack();
            new Desk().answers(enter + Desk.ALMOST_FULL_STORE + "7 8 a", -5);
            Desk.meets(enter + Desk.ALMOST_FULL_STORE + "7 8", "a", "", -5);
        });
    }

    private static void loops() {
        Sentence.holds("5: as 6 with 1.", () -> {
            String step = ": s [ 5 , 5 , ] 77 exit 88 ; ";
            Desk.after(step + "9 >r 8 >r s").stack(77).count(2, 0);
            Desk.after(step + "9 >r 7 >r s r>").stack(88, 8).count(2, 1);
            Desk.after(step + "9 >r 9 >r s r>").stack(88, 10);
            // a number on the stack is not its own
            Desk.after(step + "-5 9 >r 7 >r s r>").stack(-5, 88, 8);
            new Desk().answers(step + "9 >r s", -6);
        });
        Sentence.holds("6 n --: with the INDEX, the top of the store, the LIMIT below it, x = index"
                + " - limit, y = x + n: the index becomes n more; if just one of x and y is below"
                + " 0, both leave the store and the number at the call's place is passed over;"
                + " otherwise the call goes on where it says.", () -> {
            ends(9, 8, 1);
            ends(9, 9, -1);
            ends(9, 10, -2);
            ends(9, 0, 100);
            goesOn(9, 7, 1);
            goesOn(9, 9, 1);
            goesOn(9, 10, -1);
            goesOn(9, 8, -1);
            goesOn(9, 9, 0);
            goesOn(9, 8, 0);
            ends(-9, -10, 1);
            ends(0, 0, Desk.LEAST);
            goesOn(0, 0, Desk.MOST);
        });
    }

    private static void loopsAround() {
        Sentence.holds("all arithmetic goes round ... x = index - limit, y = x + n: the index"
                + " becomes n more", () -> {
            // x goes round
            ends(Desk.LEAST, Desk.MOST, 1);
            goesOn(Desk.LEAST, 0, 1);
            ends(Desk.LEAST, 0, -1);
            goesOn(Desk.MOST, Desk.LEAST, -1);
            ends(Desk.MOST, Desk.LEAST, -2);
            // y goes round
            ends(0, Desk.MOST, 1);
            ends(0, Desk.LEAST, -1);
            ends(0, -1, Desk.LEAST);
            goesOn(0, Desk.LEAST, Desk.MOST);
            // the index goes round
            goesOn(5, Desk.MOST, 2);
            goesOn(1, Desk.LEAST, -1);
        });
    }

    /** The word s jumps to its 88 when the loop goes on, and passes on to its 77 when it ends. */
    private static Desk step(int limit, int index, int n) {
        return Desk.after(": s [ 6 , 5 , ] 77 exit 88 ; 55 >r " + limit + " >r " + index + " >r "
                + n + " s");
    }

    private static void ends(int limit, int index, int n) {
        step(limit, index, n).stack(77).count(2, 1).answers("r>", 0).stack(77, 55);
    }

    private static void goesOn(int limit, int index, int n) {
        step(limit, index, n).stack(88).count(2, 3).answers("r> r> r>", 0)
                .stack(88, index + n, limit, 55);
    }

    private static void behaviour() {
        Sentence.holds("7: the latest word, a PLACE word (-32 if it is none), gets the call's place"
                + " as behaviour, and the call comes back.", () -> {
            Desk.after(": k does> 5 ; create x k x").stack(4, 5).word(1, 3, 1);
            Desk.after(": k does> 5 ; variable x k x").stack(4, 5);
            new Desk().answers(": k does> ; k", -32);
            new Desk().answers(": k does> ; 1 constant x k", -32);
            new Desk().answers(": k does> ; create x : y ; k", -32);
            // the latest one is the one that is being made, if there is one
            new Desk().answers(": k does> ; create x : y [ k", -32);
            Desk.meets(": k does> ; create x 1 constant y", "k", "", -32);
            // another behaviour instead of the one that it had
            Desk.after(": k does> 5 ; : l does> 6 ; create c k c l c").stack(8, 5, 8, 6);
            // behind the last cell: the place is no cell, which only the call asks for
            Desk.after(Desk.LAST_CELL + "7 399 ! create b a").word(1, 3, 400).answers("b", -9);
        });
    }

    private static void withoutPlace() {
        Sentence.holds("1, 2, 3, 5, 6: -9 when the call's place is no cell, whether the number is"
                + " wanted or not.)", () -> {
            Desk.meets(Desk.LAST_CELL + "1 399 ! 7", "a", "", -9);
            Desk.meets(Desk.LAST_CELL + "2 399 ! 7", "a", "", -9);
            // 3 wants the number for 0 alone
            Desk.meets(Desk.LAST_CELL + "3 399 ! 0", "a", "", -9);
            Desk.meets(Desk.LAST_CELL + "3 399 ! 7", "a", "", -9);
            // 5 and 6 want it only when the loop goes on
            Desk.meets(Desk.LAST_CELL + "5 399 ! 9 >r 7 >r", "a", "", -9);
            Desk.meets(Desk.LAST_CELL + "5 399 ! 9 >r 8 >r", "a", "", -9);
            Desk.meets(Desk.LAST_CELL + "6 399 ! 9 >r 8 >r 0", "a", "", -9);
            Desk.meets(Desk.LAST_CELL + "6 399 ! 9 >r 8 >r 1", "a", "", -9);
            // 0, 4 and 7 have no number behind them
            Desk.after(Desk.LAST_CELL + "0 399 ! a").stack();
            new Desk().answers(Desk.LAST_CELL + "4 399 ! 1 2 a", -9).count(6, 9);
            Desk.after(Desk.LAST_CELL + "7 399 ! create b a").word(1, 3, 400);
        });
    }

    private static void stack() {
        Sentence.holds("8 dup a -- a a. 9 drop a --. 10 swap a b -- b a. 11 over a b -- a b a. 12"
                + " rot a b c -- b c a. 13 nip a b -- b.", () -> {
            // with no more than they take, and on a stack that has room for no more
            Desk.after("1 dup").stack(1, 1);
            Desk.after("1 drop").stack();
            Desk.after("1 2 swap").stack(2, 1);
            Desk.after("1 2 over").stack(1, 2, 1);
            Desk.after("1 2 3 rot").stack(2, 3, 1);
            Desk.after("1 2 nip").stack(2);
            Desk desk = Desk.after(Desk.times(27, "9 ") + "1 2 3 rot swap nip nip");
            desk.count(1, 28).answers("drop", 0).count(1, 27);
            new Desk().answers(Desk.FULL_STACK + "dup", -3);
            new Desk().answers(Desk.FULL_STACK + "over", -3);
        });
        Sentence.holds("14 ?dup a -- a a, or 0 for 0.", () -> {
            Desk.after("5 ?dup -2147483648 ?dup").stack(5, 5, Desk.LEAST, Desk.LEAST);
            Desk.after("0 ?dup").stack(0);
            Desk.after(Desk.ALMOST_FULL_STACK + "0 ?dup").count(1, 30);
            new Desk().answers(Desk.ALMOST_FULL_STACK + "5 ?dup", -3);
            new Desk().answers("?dup", -4);
        });
        Sentence.holds("15 depth -- how many there were.", () -> {
            Desk.after("depth").stack(0);
            Desk.after("7 depth depth").stack(7, 1, 2);
            Desk desk = Desk.after(Desk.ALMOST_FULL_STACK + "depth").count(1, 30);
            Desk.due("the depth", desk.forge.stack(29), 29);
            new Desk().answers(Desk.FULL_STACK + "depth", -3);
        });
    }

    private static void pick() {
        Sentence.holds("16 pick n -- the n-th below the top then, 0 being the top (-4 if there is"
                + " none).", () -> {
            Desk.after("5 6 7 0 pick").stack(5, 6, 7, 7);
            Desk.after("5 6 7 2 pick").stack(5, 6, 7, 5);
            for (String none : new String[] {"3", "4", "-1", "-2147483648", "2147483647"}) {
                new Desk().answers("5 6 7 " + none + " pick", -4);
                Desk.meets("5 6 7 " + none, "pick", "", -4);
            }
            new Desk().answers("0 pick", -4);
            new Desk().answers("pick", -4);
            Desk desk = Desk.after("5 " + Desk.times(28, "1 ") + "28 pick").count(1, 30);
            Desk.due("the 28th below the top", desk.forge.stack(29), 5);
            new Desk().answers(Desk.ALMOST_FULL_STACK + "29 pick", -4);
        });
    }

    private static void store() {
        Sentence.holds("17 >r a --, into the store. 18 r> -- a, from it. 19 r@ -- a, its top. 20 i"
                + " -- likewise.", () -> {
            Desk.after("7 >r").stack().count(2, 1).answers("r@ i r>", 0).stack(7, 7, 7)
                    .count(2, 0);
            Desk.meets(Desk.FULL_STORE + "7", ">r", "", -5);
            new Desk().answers(">r", -4);
            for (String name : new String[] {"r>", "r@", "i"}) {
                Desk.meets("5", name, "", -6);
                new Desk().answers("7 >r " + Desk.FULL_STACK + name, -3);
                Desk full = Desk.after("7 >r " + Desk.ALMOST_FULL_STACK + name).count(1, 30);
                Desk.due("the top", full.forge.stack(29), 7);
            }
            // where r> has no room, its number stays in the store
            Desk.meets(": t 9 r> ; 7 >r " + Desk.ALMOST_FULL_STACK, "t", "", -3);
        });
        Sentence.holds("21 j -- the third of the store from its top.", () -> {
            Desk.after("1 >r 2 >r 3 >r j").stack(1).count(2, 3);
            Desk.after("1 >r 2 >r 3 >r 4 >r j").stack(2);
            Desk.meets("1 >r 2 >r", "j", "", -6);
            new Desk().answers("j", -6);
            new Desk().answers("1 >r 2 >r 3 >r " + Desk.FULL_STACK + "j", -3);
        });
        Sentence.holds("22 unloop: two leave the store.", () -> {
            Desk.after("1 >r 2 >r unloop").count(2, 0);
            Desk.after("1 >r 2 >r 3 >r unloop r>").stack(1).count(2, 0);
            Desk.meets("1 >r", "unloop", "", -6);
            new Desk().answers("unloop", -6);
        });
    }

    private static void sums() {
        Sentence.holds("23 +, 24 -, 25 *", () -> {
            Desk.gives("2147483647 2147483647 +", -2);
            Desk.gives("-2147483648 -2147483648 +", 0);
            Desk.gives("-1 1 +", 0);
            Desk.gives("5 3 -", 2);
            Desk.gives("-2147483648 2147483647 -", 1);
            Desk.gives("2147483647 -2147483648 -", -1);
            Desk.gives("-5 3 *", -15);
            Desk.gives("-2147483648 -2147483648 *", 0);
            Desk.gives("2147483647 2147483647 *", 1);
            Desk.gives("46341 46341 *", -2147479015);
        });
    }

    private static void division() {
        Sentence.holds("26 /, 27 mod a b -- (towards 0; the remainder with the sign of a).", () -> {
            Desk.gives("7 2 /", 3);
            Desk.gives("-7 2 /", -3);
            Desk.gives("7 -2 /", -3);
            Desk.gives("-7 -2 /", 3);
            Desk.gives("7 2 mod", 1);
            Desk.gives("-7 2 mod", -1);
            Desk.gives("7 -2 mod", 1);
            Desk.gives("-7 -2 mod", -1);
            Desk.gives("-2147483648 2147483647 /", -1);
            Desk.gives("-2147483648 2147483647 mod", -1);
            Desk.gives("2147483647 -2147483648 /", 0);
            Desk.gives("2147483647 -2147483648 mod", Desk.MOST);
            Desk.gives("-2147483648 -1 /", Desk.LEAST);
            Desk.gives("-2147483648 -1 mod", 0);
            Desk.gives("-2147483648 1 /", Desk.LEAST);
            Desk.gives("-2147483648 1 mod", 0);
            Desk.gives("7 -1 /", -7);
            Desk.gives("0 5 /", 0);
            Desk.gives("-6 3 mod", 0);
            Desk.meets("7 0", "/", "", -10);
            Desk.meets("7 0", "mod", "", -10);
        });
        Sentence.holds("28 negate, 29 abs a --. 30 min, 31 max, 32 and, 33 or, 34 xor a b --. 35"
                + " invert a -- all bits other.", () -> {
            Desk.gives("0 negate", 0);
            Desk.gives("2147483647 negate", Desk.LEAST + 1);
            Desk.gives("-2147483648 negate", Desk.LEAST);
            Desk.gives("-2147483647 abs", Desk.MOST);
            Desk.gives("2147483647 abs", Desk.MOST);
            Desk.gives("-1 abs", 1);
            Desk.gives("0 abs", 0);
            Desk.gives("-2147483648 abs", Desk.LEAST);
            Desk.gives("-2147483648 2147483647 min", Desk.LEAST);
            Desk.gives("2147483647 -2147483648 min", Desk.LEAST);
            Desk.gives("-2147483648 2147483647 max", Desk.MOST);
            Desk.gives("2147483647 -2147483648 max", Desk.MOST);
            Desk.gives("5 5 min", 5);
            Desk.gives("5 5 max", 5);
            Desk.gives("-2147483648 -1 and", Desk.LEAST);
            Desk.gives("-2147483648 2147483647 and", 0);
            Desk.gives("-2147483648 2147483647 or", -1);
            Desk.gives("-1 2147483647 xor", Desk.LEAST);
            Desk.gives("0 invert", -1);
            Desk.gives("-2147483648 invert", Desk.MOST);
        });
    }

    private static void comparing() {
        Sentence.holds("36 =, 37 <, 38 u< a b -- (the last one with a and b taken as 0 .. 2^32 -"
                + " 1).", () -> {
            Desk.gives("-2147483648 -2147483648 =", -1);
            Desk.gives("-2147483648 2147483647 =", 0);
            Desk.gives("-2147483648 2147483647 <", -1);
            Desk.gives("2147483647 -2147483648 <", 0);
            Desk.gives("-2147483648 -2147483648 <", 0);
            Desk.gives("-1 0 <", -1);
            Desk.gives("-2147483648 2147483647 u<", 0);
            Desk.gives("2147483647 -2147483648 u<", -1);
            Desk.gives("0 -1 u<", -1);
            Desk.gives("-1 0 u<", 0);
            Desk.gives("-2 -1 u<", -1);
            Desk.gives("-1 -1 u<", 0);
            Desk.gives("0 0 u<", 0);
            Desk.gives("0 1 u<", -1);
        });
        Sentence.holds("39 0=, 40 0< a --. 41 1+, 42 1-, 43 2* a --.", () -> {
            Desk.gives("0 0=", -1);
            Desk.gives("1 0=", 0);
            Desk.gives("-1 0=", 0);
            Desk.gives("-1 0<", -1);
            Desk.gives("0 0<", 0);
            Desk.gives("-2147483648 0<", -1);
            Desk.gives("2147483647 0<", 0);
            Desk.gives("2147483647 1+", Desk.LEAST);
            Desk.gives("-1 1+", 0);
            Desk.gives("-2147483648 1-", Desk.MOST);
            Desk.gives("0 1-", -1);
            Desk.gives("1073741823 2*", Desk.MOST - 1);
            Desk.gives("1073741824 2*", Desk.LEAST);
            Desk.gives("-1073741824 2*", Desk.LEAST);
            Desk.gives("-1073741825 2*", Desk.MOST - 1);
        });
    }

    private static void memory() {
        Sentence.holds("44 @ a -- the number in cell a. 45 ! n a --: cell a becomes n. 46 +! n a"
                + " --: n more.", () -> {
            for (int a : new int[] {0, 399}) {
                Desk.after("5 " + a + " ! " + a + " @").stack(5).cells(a, 5)
                        .answers("-7 " + a + " +!", 0).stack(5).cells(a, -2);
            }
            for (String none : new String[] {"-1", "400"}) {
                Desk.meets("7 " + none, "@", "", -9);
                Desk.meets("7 " + none, "!", "", -9);
                Desk.meets("7 " + none, "+!", "", -9);
            }
            Desk.after("2147483647 0 ! 1 0 +!").cells(0, Desk.LEAST);
            Desk.after(Desk.ALMOST_FULL_STACK + "0 @").count(1, 30);
        });
        Sentence.holds("47 , n --: appended. 48 here --.", () -> {
            Desk.after("399 allot 7 ,").cells(399, 7).count(3, 400).stack();
            Desk.meets("400 allot 7", ",", "", -8);
            Desk.after("here 400 allot here").stack(0, 400);
            Desk.after(Desk.ALMOST_FULL_STACK + "here").count(1, 30);
            new Desk().answers(Desk.FULL_STACK + "here", -3);
        });
        Sentence.holds("49 allot n --: HERE is n more (-8 if that is not 0 .. 400).", () -> {
            Desk.after("400 allot").count(3, 400).stack().answers("-400 allot", 0).count(3, 0);
            Desk.after("0 allot").count(3, 0);
            Desk.after("400 allot 0 allot").count(3, 400);
            for (String none : new String[] {"401", "-1", "2147483647", "-2147483648"}) {
                Desk.meets(none, "allot", "", -8);
            }
            for (String none : new String[] {"1", "-401", "2147483647", "-2147483648"}) {
                Desk.meets("400 allot " + none, "allot", "", -8);
            }
            // the cells keep what is in them
            Desk.after("5 , 6 , -2 allot 2 allot").cells(0, 5, 6).count(3, 2);
        });
    }

    private static void writing() {
        Sentence.holds("50 . n --: n and a 32 are written.", () -> {
            Desk.after("0 . -1 . 9 . 10 .").wrote("0 -1 9 10 ").stack();
            Desk.after("2147483647 . -2147483648 .").wrote("2147483647 -2147483648 ");
            Desk.after("1000000000 . 999999999 . -1000000000 .")
                    .wrote("1000000000 999999999 -1000000000 ");
            new Desk().answers(".", -4).wrote("");
        });
        Sentence.holds("51 emit c --: the character c modulo 128 (0 .. 127) is written.", () -> {
            Desk.after("0 emit 127 emit 128 emit 255 emit 256 emit 193 emit")
                    .wrote("\u0000\u007f\u0000\u007f\u0000A").stack();
            Desk.after("-1 emit -128 emit -63 emit 2147483647 emit -2147483648 emit")
                    .wrote("\u007f\u0000A\u007f\u0000");
            new Desk().answers("emit", -4).wrote("");
        });
        Sentence.holds("52 cr: a 10.", () -> {
            Desk.after("cr").wrote("\n").stack();
            Desk.after(Desk.FULL_STACK + "cr").wrote("\n").count(1, 30);
            Desk.after(": a 300 0 do 65 emit loop ; a cr").count(0, 300);
        });
    }
}
