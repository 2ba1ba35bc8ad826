/** Promise 3: the words 8 .. 43, on stack and store and with numbers. */
public final class StackWordsTest {
    public static void main(String[] args) {
        moves();
        store();
        two();
        one();
        tooFew();
        tooMany();
        Desk.end();
    }

    private static void moves() {
        Desk.after("1 2 dup").stack(1, 2, 2);
        Desk.after("1 2 drop").stack(1);
        Desk.after("1 2 swap").stack(2, 1);
        Desk.after("1 2 3 rot").stack(2, 3, 1);
        Desk.after("1 2 nip").stack(2);
        Desk.after("1 2 3 swap").stack(1, 3, 2);
        Desk.after("1 2 over").stack(1, 2, 1);
        Desk.after("9 1 2 3 rot").stack(9, 2, 3, 1);
        Desk.after("1 2 3 nip").stack(1, 3);
        Desk.after("5 ?dup 0 ?dup").stack(5, 5, 0);
        Desk.after("depth 7 depth").stack(0, 7, 2);
        Desk.after("5 6 7 0 pick").stack(5, 6, 7, 7);
        Desk.after("5 6 7 2 pick").stack(5, 6, 7, 5);
        new Desk().answers("5 6 7 3 pick", -4);
        new Desk().answers("5 6 7 -1 pick", -4);
        new Desk().answers("0 pick", -4);
        new Desk().answers("5 2147483647 pick", -4);
        Desk.after("5 9 ' pick catch").stack(5, 9, -4);
    }

    private static void store() {
        Desk.after("1 2 >r").stack(1).count(2, 1).answers("r@ r@ r>", 0).stack(1, 2, 2, 2)
                .count(2, 0);
        Desk.after("1 >r i r@ r>").stack(1, 1, 1);
        Desk.after("1 >r 2 >r unloop").count(2, 0);
        Desk.after("1 2 3 >r >r >r i j").stack(1, 3).count(2, 3).answers("unloop", 0)
                .count(2, 1).answers("r>", 0).stack(1, 3, 3);
    }

    private static void two() {
        Desk.gives("5 3 +", 8);
        Desk.gives("2147483647 1 +", Desk.LEAST);
        Desk.gives("5 3 -", 2);
        Desk.gives("-2147483648 1 -", Desk.MOST);
        Desk.gives("-5 3 *", -15);
        Desk.gives("65536 65536 *", 0);
        Desk.gives("7 2 /", 3);
        Desk.gives("-7 2 /", -3);
        Desk.gives("7 -2 /", -3);
        Desk.gives("-2147483648 -1 /", Desk.LEAST);
        Desk.gives("7 2 mod", 1);
        Desk.gives("-7 2 mod", -1);
        Desk.gives("7 -2 mod", 1);
        Desk.gives("-2147483648 -1 mod", 0);
        new Desk().answers("7 0 /", -10);
        new Desk().answers("7 0 mod", -10);
        Desk.after("7 0 ' / catch").stack(7, 0, -10);
        Desk.gives("3 -4 min", -4);
        Desk.gives("-4 3 min", -4);
        Desk.gives("3 -4 max", 3);
        Desk.gives("-4 3 max", 3);
        Desk.gives("12 10 and", 8);
        Desk.gives("12 10 or", 14);
        Desk.gives("12 10 xor", 6);
        Desk.gives("5 5 =", -1);
        Desk.gives("5 6 =", 0);
        Desk.gives("5 6 <", -1);
        Desk.gives("5 5 <", 0);
        Desk.gives("6 5 <", 0);
        Desk.gives("-1 1 <", -1);
        Desk.gives("2147483647 -2147483648 <", 0);
        Desk.gives("5 6 u<", -1);
        Desk.gives("-1 1 u<", 0);
        Desk.gives("1 -1 u<", -1);
        Desk.gives("-2 -1 u<", -1);
        Desk.gives("2147483647 -2147483648 u<", -1);
        Desk.gives("0 0 u<", 0);
    }

    private static void one() {
        Desk.gives("5 negate", -5);
        Desk.gives("-2147483648 negate", Desk.LEAST);
        Desk.gives("-5 abs", 5);
        Desk.gives("5 abs", 5);
        Desk.gives("-2147483648 abs", Desk.LEAST);
        Desk.gives("0 invert", -1);
        Desk.gives("5 invert", -6);
        Desk.gives("0 0=", -1);
        Desk.gives("3 0=", 0);
        Desk.gives("-1 0<", -1);
        Desk.gives("0 0<", 0);
        Desk.gives("1 0<", 0);
        Desk.gives("2147483647 1+", Desk.LEAST);
        Desk.gives("-2147483648 1-", Desk.MOST);
        Desk.gives("1073741824 2*", Desk.LEAST);
        Desk.gives("-3 2*", -6);
    }

    private static void tooFew() {
        String[] ofOne = {"dup", "drop", "?dup", "pick", ">r", "negate", "abs", "invert", "0=",
            "0<", "1+", "1-", "2*", "@", ",", "allot", ".", "emit", "execute", "compile,", "throw",
            "catch"};
        for (String name : ofOne) {
            new Desk().answers(name, -4);
            Desk.caught("", name, "", -4);
        }
        String[] ofTwo = {"swap", "over", "nip", "+", "-", "*", "/", "mod", "min", "max", "and",
            "or", "xor", "=", "<", "u<", "!", "+!"};
        for (String name : ofTwo) {
            new Desk().answers("0 " + name, -4);
            Desk.caught("0", name, "", -4);
        }
        new Desk().answers("1 2 rot", -4);
        String[] ofStore = {"r>", "r@", "i"};
        for (String name : ofStore) {
            new Desk().answers(name, -6);
        }
        new Desk().answers("1 >r 2 >r j", -6);
        new Desk().answers("1 >r unloop", -6);
        // too few in the store is asked before a full stack
        new Desk().answers(Desk.times(30, "1 ") + "r>", -6);
    }

    private static void tooMany() {
        for (String name : new String[] {"dup", "over", "?dup", "depth", "here", "' dup"}) {
            new Desk().answers(Desk.FULL_STACK + name, -3).stack();
        }
        new Desk().answers(Desk.times(29, "1 ") + "0 ?dup", 0).count(1, 30);
        String six = Desk.times(6, "1 >r ");
        Desk desk = Desk.after(six + six + six + six + six).count(2, 30);
        desk.answers("7 ' >r catch", 0).stack(7, -5).count(2, 30);
        desk.answers("1 >r", -5).count(2, 0);
        // nothing has been changed where an error was met
        desk = Desk.after(": a 1 1 r> ; 8 >r " + Desk.times(28, "1 ") + "' a catch");
        desk.count(1, 29).count(2, 1).count(7, 1);
        Desk.due("the error of r>", desk.forge.stack(28), -3);
        desk.answers("drop r>", 0);
        Desk.due("the number in the store", desk.forge.stack(28), 8);
        desk = Desk.after(six + six + six + six + six);
        desk.answers(Desk.FULL_STACK + "r>", -3);
        desk = Desk.after(six + six + six + six + six);
        desk.answers(Desk.FULL_STACK + "j", -3);
        desk = Desk.after(six + six + six + six + "1 >r 1 >r 1 >r 1 >r 1 >r ").count(2, 29);
        desk.answers(": a do loop ; 8 7 6 ' a catch", 0).stack(8, 7, 6, -5).count(2, 29);
    }
}
