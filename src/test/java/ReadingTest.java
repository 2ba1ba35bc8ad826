/** Promise 3: the text, names and numbers, interpreting, and what stays from run to run. */
public final class ReadingTest {
    public static void main(String[] args) {
        names();
        numbers();
        parsing();
        comments();
        meanings();
        goingOn();
        steps();
        Desk.end();
    }

    private static void names() {
        Desk.after(" \n 1\n2  3 \n").stack(1, 2, 3);
        new Desk().answers("1\t2", -13);
        new Desk().answers("1 DUP", -13);
        new Desk().answers("abcdefghi", -13);
        new Desk().answers("abcdefghij", -19);
        Desk.after(": abcdefghi 4 ; abcdefghi").stack(4);
        new Desk().answers(": abcdefghij 4 ;", -19).count(4, 0).count(5, 0);
    }

    private static void numbers() {
        Desk.after("0 -0 7 -7 0000000012").stack(0, 0, 7, -7, 12);
        Desk.after("2147483647 -2147483648").stack(2147483647, -2147483648);
        new Desk().answers("2147483648", -19);
        new Desk().answers("-2147483649", -19);
        new Desk().answers("00000000012", -19);
        new Desk().answers("9999999999", -19);
        new Desk().answers("+5", -13);
        new Desk().answers("--5", -13);
        new Desk().answers("5-", -13);
        new Desk().answers("1a", -13);
        Desk.after(": 5 6 ; 5").stack(6);
        Desk.after(": a -2147483648 ; a").stack(-2147483648).cells(0, 1, -2147483648, 0);
        new Desk().answers(Desk.times(30, "1 "), 0).count(1, 30).answers("1", -3).stack();
        // both numbers or none: the last cell stays as it was
        new Desk().answers("399 allot : a 5", -8).count(3, 399).cells(399, 0);
        new Desk().answers("400 allot : a dup", -8).count(3, 400).count(4, 0);
    }

    private static void parsing() {
        new Desk().answers(":", -16);
        new Desk().answers("'  \n ", -16);
        new Desk().answers("variable abcdefghij", -19);
        Desk.caught("", "'", "", -16);
        Desk.after("' ' catch abcdefghij 5").stack(-19, 5);
        Desk.after("' ' catch unknown 5").stack(-13, 5);
        Desk.after("' : catch abcdefghij 5").stack(-19, 5).count(4, 0);
        // without its number, constant does not come to parse
        Desk.after("' constant catch dup").stack(-4, -4);
        Desk.after("' variable catch \n\n x 5 x !").stack(0).cells(0, 5);
    }

    private static void comments() {
        Desk.after("1 ( 2 3 ) 4").stack(1, 4);
        Desk.after("1 ( 2)3").stack(1, 3);
        Desk.after("1 ( ( ) 2").stack(1, 2);
        Desk.after("1 ( 2 3").stack(1).answers("4", 0).stack(1, 4);
        Desk.after(": a ( 1 ) 2 ; a").stack(2);
        Desk.after("1 ( " + Desk.times(196, "x")).stack(1);
        Desk.after("1 ( 2 ) 3").answers("4 ( 5", 0).stack(1, 3, 4);
        new Desk().answers("(1) 2", -13);
        Desk.after("' ( execute 1 2 ) 3").stack(3);
    }

    private static void meanings() {
        Desk.after(": a 1 ; : b a ; : a 2 ; a b").stack(2, 1);
        Desk.after(": a 1 ; : a a 2 ; a").stack(1, 2);
        Desk.after(": dup 3 ; dup").stack(3);
        new Desk().answers(": a a ;", -13);
        Desk.after(": a 5 ; immediate : b a ; b").stack(5);
        Desk.after(": a 1 ; : b 2 ; a b immediate : c a b ;").stack(1, 2, 2).cells(6, 82, 0);
        for (int number = 0; number < Desk.NAMES.length; number++) {
            String name = Desk.NAMES[number];
            if (name.isEmpty()) {
                continue;
            }
            Desk.after("' " + name).stack(number);
            Desk postponed = Desk.after(": a postpone " + name);
            if (Desk.isImmediate(name)) {
                postponed.cells(0, number, 0).count(3, 1);
            } else {
                postponed.cells(0, 1, number, 63).count(3, 3);
            }
        }
    }

    private static void goingOn() {
        Desk desk = Desk.after("5 6 >r : a 1 if 2");
        desk.stack(5).count(2, 1).count(5, 1).count(8, 1).word(0, 4, 0);
        desk.answers("else 3 then ; a r>", 0).stack(5, 2, 6).count(2, 0).count(5, 0);
        Desk.after(": a [ 1 2").stack(1, 2).count(5, 0).answers("+ ] literal ; a", 0).stack(3);
        Desk.after(": a").answers("7 ;", 0).answers("a", 0).stack(7);
    }

    private static void steps() {
        new Desk().answers(": a 1 + ; 5 a .", 7, 0).count(6, 7);
        new Desk().answers(": a 1 + ; 5 a .", 6, -28).count(6, 6).stack().wrote("");
        new Desk().answers("1 2 3 : a dup dup 4 ;", 2, 0).count(6, 2);
        new Desk().answers("5 ' dup execute", 3, 0).count(6, 3);
        new Desk().answers("5 ' dup catch", 2, -28).count(6, 2).count(7, 0);
        new Desk().answers("5 ' dup catch", 3, 0).count(6, 3);
        new Desk().answers(": a begin 0 until ; ' a catch", 50, -28).count(6, 50).stack();
        // a number that is no word's takes no step
        new Desk().answers(": a [ 999 , ] ; a", 6, -9).count(6, 6);
        new Desk().answers(": k does> drop 8 ; create a 3 , k a", 11, 0).count(6, 11).stack(8);
        // the word that is being made goes when the steps end
        new Desk().answers(": a 1 [ cr", 2, -28).count(4, 0).count(3, 0).count(5, 0);
    }
}
