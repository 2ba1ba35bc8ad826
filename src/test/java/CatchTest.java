/** Promise 3: errors, throw and catch, and how a run ends with an error. */
public final class CatchTest {
    public static void main(String[] args) {
        thrown();
        caught();
        noted();
        nested();
        full();
        endings();
        Desk.end();
    }

    private static void thrown() {
        new Desk().answers("5 throw 6", 5).stack();
        new Desk().answers("-2147483648 throw", -2147483648);
        Desk.after("7 0 throw").stack(7);
        new Desk().answers("throw", -4);
        Desk.after("-28 ' throw catch").stack(0, -28).count(7, 1);
        Desk.after("0 ' throw catch").stack(0).count(7, 0);
        Desk.after("5 ' throw catch").stack(0, 5);
    }

    private static void caught() {
        Desk.after(": t 7 throw ; 1 2 ' t catch").stack(1, 2, 7).count(7, 1);
        Desk.after(": t 3 4 ; 1 ' t catch").stack(1, 3, 4, 0).count(7, 0);
        Desk.after("5 ' dup catch").stack(5, 5, 0);
        new Desk().answers("catch", -4);
        new Desk().answers("82 catch", -9);
        new Desk().answers("-1 catch", -9);
        Desk.after("99 ' catch catch").stack(99, -9);
        Desk.after("' variable catch v 3 v !").stack(0).cells(0, 3);
        Desk.after("' exit catch").stack(-14);
        // the call stands where a CATCH stood before
        Desk.after("' cr catch : a 5 6 ; a").stack(0, 5, 6);
        Desk.after(": a exit 5 ; ' a catch").stack(0);
        Desk.after(": a ['] / catch 9 ; 1 0 a 8").stack(1, 0, -10, 9, 8);
        // compiling and the word that is being made are left alone
        Desk.after(": t 7 throw ; : m ['] t catch ; immediate : a 1 m drop").stack(7).count(5, 1)
                .count(4, 3).count(7, 1);
        Desk.after(": t begin 0 until ; 5 ' t").answers("catch", 20, -28).stack().count(7, 0);
    }

    private static void noted() {
        Desk.after(": t drop drop 7 throw ; 1 2 3 ' t catch").stack(1, 0, 0, 7);
        Desk.after(": t drop 9 7 throw ; 1 2 3 ' t catch").stack(1, 2, 9, 7);
        Desk.after(": t 4 5 6 7 throw ; 1 ' t catch").stack(1, 7);
        Desk.after(": t 4 >r 5 >r 7 throw ; 1 >r ' t catch").stack(7).count(2, 1)
                .answers("r>", 0).stack(7, 1);
        Desk.after(": t r> r> 7 throw ; 1 >r 2 >r ' t catch").stack(7).count(2, 2)
                .answers("r> r>", 0).stack(7, 0, 0);
        Desk.after(": t r> drop 7 throw ; 1 >r 2 >r ' t catch").answers("r> r>", 0)
                .stack(7, 0, 1);
    }

    private static void nested() {
        Desk.after(": t 7 throw ; : u ['] t catch 1+ throw ; ' u catch").stack(8).count(7, 2);
        Desk.after(": t 7 throw ; : u ['] t catch ; ' u catch").stack(7, 0).count(7, 1);
        Desk.after(": t 7 throw ; ' t ' catch catch").stack(7, 0).count(7, 1);
        Desk.after("3 ' dup 80 80 catch").stack(3, 3, 0, 0, 0);
        Desk.after(": a 80 catch ; ' a catch").stack(-4, 0);
    }

    private static void full() {
        // the 0 has no place: an error that this CATCH does not get
        String many = Desk.times(28, "1 ");
        new Desk().answers(many + "1 ' dup catch", -3).stack().count(7, 0);
        Desk.after(many + "' dup catch").count(1, 30).count(7, 0);
        Desk desk = Desk.after(many + "1 : a ['] dup catch ; ' a catch");
        desk.count(1, 30).count(7, 1);
        Desk.due("the error that the CATCH below got", desk.forge.stack(29), -3);
        new Desk().answers(many + ": a ['] dup catch ; ' a catch", -3).count(7, 0);
        // thirty calls, a CATCH being one of them
        new Desk().answers(": a [ 1 , 82 , ] catch throw ; a", -5).count(7, 15);
        Desk.after(": c 1+ dup 29 < if recurse else drop ['] cr catch then ; 0 c").stack(0);
        Desk.after(": c 1+ dup 29 < if recurse else ['] cr catch then ; 0 ' c catch")
                .stack(29, -5).count(7, 1);
    }

    private static void endings() {
        Desk desk = new Desk().answers("1 2 >r : a begin if oops 5 6", -13);
        desk.stack().count(2, 0).count(5, 0).count(8, 0).count(4, 0).count(3, 0);
        desk.answers("7", 0).stack(7);
        desk = new Desk().answers(": a 1 2 3 oops2 ; a", -13);
        desk.answers("a", -13).answers(": b 5 ; b", 0).stack(5).word(0, 0, 0);
        desk = new Desk().answers("1 . 0 0 / 2 .", -10).wrote("1 ").answers("", 0);
        desk.stack().wrote("");
        new Desk().answers(": a 5 throw 8 ; a", 5).answers("7", 0).stack(7).count(6, 0);
        new Desk().answers("cr", 0, -28).answers("7", 0).stack(7).count(6, 0).wrote("");
        new Desk().answers(": a 1 >r 5 throw ; a", 5).count(2, 0).answers("r>", -6);
    }
}
