/** Promise 3: the words 53 .. 68, which make words or compile, and the calls of made words. */
public final class MakingTest {
    public static void main(String[] args) {
        colon();
        data();
        behaviour();
        limits();
        ticks();
        compiling();
        brackets();
        calls();
        inner();
        Desk.end();
    }

    private static void colon() {
        Desk.after(": a dup * ; 7 a").stack(49).cells(0, 8, 25, 0);
        Desk.after(": a 1 exit 2 ; a").stack(1);
        new Desk().answers(";", -14);
        new Desk().answers("exit", -14);
        new Desk().answers(": a [ : b", -29);
        new Desk().answers(": a [ variable b", -29);
        new Desk().answers(": a [ create b", -29);
        new Desk().answers(": a [ 1 constant b", -29);
        Desk.after(": a [ ' : catch 5").stack(-29, 5);
        // -4 is asked before -29
        Desk.after(": a [ ' constant catch").stack(-4);
        Desk desk = new Desk().answers("variable v : a 1 2 oops", -13);
        desk.count(3, 1).count(4, 1).count(5, 0).cells(1, 1, 1, 1, 2);
        desk.answers("a", -13);
        desk = new Desk().answers(": a [ 50 allot oops", -13).count(3, 0).count(4, 0);
        desk.answers(": a if oops", -13).count(8, 0).answers(": a ;", 0).word(0, 0, 0);
        Desk.after(": a dup if 1- recurse then ; 5 a").stack(0).cells(4, 82);
        new Desk().answers("recurse", -14);
    }

    private static void data() {
        Desk.after("9 constant nine variable v nine v ! v @").stack(9).cells(0, 9, 9);
        Desk.after("9 constant n 5 0 ! n").stack(5);
        Desk.after("1 , create t 5 , 6 , t t 1+ @").stack(1, 6).word(0, 0, 1);
        Desk.after("variable a variable b a b here").stack(0, 1, 2);
        new Desk().answers("constant x", -4);
        new Desk().answers(Desk.times(30, "1 ") + "drop variable v v v", -3);
        new Desk().answers(Desk.times(30, "1 ") + "drop 9 constant v v v", -3);
    }

    private static void behaviour() {
        Desk desk = Desk.after(": k create , does> @ 1+ ; 9 k x x").stack(10);
        desk.word(1, 1, 2).word(1, 3, 3).cells(0, 57, 47, 7, 44, 41, 0, 9);
        new Desk().answers("does>", -14);
        new Desk().answers(": k does> ; k", -32);
        Desk.after(": k does> 5 ; create a k a").stack(4, 5);
        new Desk().answers(": k does> 5 ; 1 constant c k", -32);
        // the latest word counts, also when it is being made
        new Desk().answers(": k does> 5 ; create c : u [ k", -32);
        Desk.after(": k does> 5 ; : l does> 6 ; create c k c l c").stack(8, 5, 8, 6);
        // the stack is asked before the calls
        Desk.after(": k create does> ; k x : r x recurse ; 1 2 ' r catch").stack(1, 2, -3);
        Desk.after(": k create does> ; k x : r x recurse ; 1 ' r catch").stack(1, -5);
    }

    private static void limits() {
        Desk desk = new Desk();
        for (int k = 0; k < 40; k++) {
            desk.answers("create " + (char) ('A' + k), 0);
        }
        desk.count(4, 40).answers("create x", -8).count(4, 40).answers(": x", -8).count(5, 0);
        desk.answers("1 constant x", -8).count(3, 0).answers("variable x", -8).count(3, 0);
        desk.answers("7 ' constant catch x 5", 0).stack(7, -8, 5);
        new Desk().answers("400 allot create x x", 0).stack(400).word(0, 0, 400);
        new Desk().answers("400 allot 1 constant x", -8).count(4, 0);
        new Desk().answers("399 allot 1 constant x x", 0).stack(1).count(3, 400);
        new Desk().answers("399 allot variable x x", 0).stack(399).count(3, 400);
        new Desk().answers("400 allot variable x", -8).count(4, 0);
        new Desk().answers("400 allot : x", 0).answers(";", -8).count(4, 0).count(3, 400);
        new Desk().answers("399 allot : x ; x", 0).count(3, 400);
        new Desk().answers("400 allot immediate", -32);
        new Desk().answers("immediate", -32);
        Desk.after(": a [ immediate ] 3 ; : b a").stack(3);
        // a word that went leaves nothing to the next one
        new Desk().answers(": a [ immediate oops", -13).answers(": a ;", 0).word(0, 2, 0);
    }

    private static void ticks() {
        Desk.after("' dup ' exit : a ; ' a").stack(8, 0, 82);
        new Desk().answers("' 5", -13);
        new Desk().answers("' abcdefghij", -19);
        new Desk().answers(": a [ ' a", -13);
        Desk.after(": a ['] dup ; a").stack(8).cells(0, 1, 8, 0);
        new Desk().answers("['] dup", -14);
        new Desk().answers(": a ['] foo", -13);
        new Desk().answers(": a [']", -16);
        new Desk().answers("399 allot : a ['] dup", -8).cells(399, 0);
        Desk.after("3 ' dup execute").stack(3, 3);
        Desk.after(": a 4 ; ' a execute").stack(4);
        new Desk().answers("82 execute", -9);
        new Desk().answers("-1 execute", -9);
        Desk.after("82 ' execute catch").stack(82, -9);
        Desk.after("0 0 ! : a [ 82 execute").stack();
        Desk.after("7 8 62 62 62 execute").stack(7, 7).answers("81 execute 1 2 ) 3", 0)
                .stack(7, 7, 3);
    }

    private static void compiling() {
        Desk.after("8 compile,").stack().cells(0, 8).count(3, 1);
        new Desk().answers("82 compile,", -9);
        new Desk().answers("-1 compile,", -9);
        Desk.after(": a [ 82 compile, ]").cells(0, 82);
        Desk.after("400 allot 8 ' compile, catch").stack(8, -8);
        Desk.after("400 allot 99 ' compile, catch").stack(99, -9);
        Desk.after(": a [ 5 ] literal ; a").stack(5).cells(0, 1, 5, 0);
        new Desk().answers("5 literal", -14);
        new Desk().answers(": a literal", -4);
        Desk.after(": m ['] literal catch ; immediate 395 allot : a [ 5 ] m").stack(5, -8)
                .cells(399, 0).count(3, 399);
        Desk.after(": e postpone dup ; immediate : f e ; 3 f").stack(3, 3).cells(0, 1, 8, 63, 0, 8);
        Desk.after(": e postpone if ; immediate : f e 1 else 2 then ; 0 f").stack(2).cells(0, 69, 0);
        new Desk().answers("postpone dup", -14);
        new Desk().answers(": a postpone", -16);
        new Desk().answers(": a postpone foo", -13);
        new Desk().answers("398 allot : a postpone dup", -8).cells(398, 0, 0);
        new Desk().answers("399 allot : a postpone if", 0).cells(399, 69);
        new Desk().answers("400 allot : a postpone if", -8);
        new Desk().answers("400 allot : a recurse", -8);
        new Desk().answers("400 allot : a does>", -8);
    }

    private static void brackets() {
        new Desk().answers("]", -14);
        Desk.after("[").count(5, 0);
        Desk.after(": a [ 3 4 * ] literal ; a").stack(12);
        new Desk().answers(": a [ ;", -14);
        Desk.after(": a ; : b ] ;").cells(1, 67, 0);
        Desk.after(": a [").count(5, 0).answers("]", 0).count(5, 1).answers(";", 0).count(4, 1);
    }

    private static void calls() {
        new Desk().answers(": a recurse ; a", -5).count(6, 34);
        Desk.after(": a 1+ dup 29 < if recurse then ; 0 a").stack(29);
        Desk.after(": a 1+ dup 30 < if recurse then ; 0 a").stack(30);
        new Desk().answers(": a 1+ dup 31 < if recurse then ; 0 a", -5);
        // a place word without a behaviour needs no call
        Desk.after("variable v : a 1+ dup 30 < if recurse else v then ; 0 a").stack(30, 0);
        // the call leaves the cells
        new Desk().answers("398 allot : a 8 [ -2 allot ] ; 8 398 ! 8 399 ! 1 a", -9).stack();
        new Desk().answers(": a [ 2 , 777 , ] ; a", -9);
        new Desk().answers(": a [ 2 , -1 , ] ; a", -9);
        new Desk().answers(": a [ 900 , ] ; a", -9);
        new Desk().answers(": a [ -1 , ] ; a", -9);
        // a word that is being made is one
        Desk.after(": a 5 exit [ ' dup drop 82 execute").stack(5);
    }

    private static void inner() {
        for (int number = 0; number <= 7; number++) {
            new Desk().answers("1 1 " + number + " execute", -14);
            Desk.after("1 1 " + number + " catch").stack(1, 1, -14);
        }
        Desk.after(": a 1 execute [ 77 , ] ; a").stack(77);
        Desk.after(": a 0 execute 5 ; a").stack();
        // -14, -4, -6 and then -9, whether the number behind is wanted or not
        String last = "399 allot : a [ -399 allot ] ; ";
        Desk.after(last + "1 399 ! ' a catch").stack(-9);
        Desk.after(last + "2 399 ! ' a catch").stack(-9);
        Desk.after(last + "3 399 ! ' a catch").stack(-4);
        Desk.after(last + "3 399 ! 1 ' a catch").stack(1, -9);
        Desk.after(last + "5 399 ! ' a catch").stack(-6);
        Desk.after(last + "5 399 ! 1 >r 1 >r ' a catch").stack(-9).count(2, 2);
        Desk.after(last + "6 399 ! ' a catch").stack(-4);
        Desk.after(last + "6 399 ! 1 ' a catch").stack(1, -6);
        Desk.after(last + "6 399 ! 1 >r 1 >r 1 ' a catch").stack(1, -9).count(2, 2);
        Desk.after(": a [ 5 , 0 , ] ; 1 >r ' a catch").stack(-6).count(2, 1);
        Desk.after(": a [ 6 , 0 , ] ; 1 >r 1 ' a catch").stack(1, -6).count(2, 1);
        Desk.after(last + "7 399 ! ' a catch").stack(-32);
        Desk.after(last + "7 399 ! create b a").word(1, 3, 400).answers("b", -9);
        Desk.after(last + "0 399 ! a").stack();
        new Desk().answers(": a [ 4 , ] ; 1 a", -4);
        Desk.after(": a [ 4 , ] r> r> ; 1 2 a").stack(2, 1);
        new Desk().answers(": a 5 ; " + Desk.times(30, "1 ") + "a", -3);
    }
}
