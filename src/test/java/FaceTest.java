/** Promises 1, 2, 4, 5, 6, 7, 8: what can be seen from outside, with edges and wrong inputs. */
public final class FaceTest {
    public static void main(String[] args) {
        newObject();
        type();
        runBounds();
        output();
        stack();
        cell();
        word();
        count();
        Desk.end();
    }

    private static void newObject() {
        Desk desk = new Desk();
        for (int what = 0; what <= 8; what++) {
            desk.count(what, 0);
        }
        desk.cells(0, new int[400]);
        Desk.dueThrow("output(0)", IndexOutOfBoundsException.class, () -> desk.forge.output(0));
        Desk.dueThrow("stack(0)", IndexOutOfBoundsException.class, () -> desk.forge.stack(0));
        Desk.dueThrow("word(0, 0)", IndexOutOfBoundsException.class, () -> desk.forge.word(0, 0));
        Desk.due("a run without a text", desk.forge.run(0), 0);
    }

    private static void type() {
        Desk desk = new Desk().type(Desk.times(199, " ") + "5");
        Desk.due("a 201st character", desk.forge.type('6'), false);
        Desk.due("run", desk.forge.run(0), 0);
        desk.stack(5);
        desk.type(Desk.times(200, " "));
        Desk.due("a 201st character again", desk.forge.type(' '), false);
        Desk.due("a run of blanks", desk.forge.run(0), 0);
        desk.stack(5);
        new Desk().answers(": \u20ac\u0000 7 ; \u20ac\u0000", 0).stack(7);
    }

    private static void runBounds() {
        Desk desk = new Desk().type("1 2 +");
        Desk.dueThrow("run(-1)", IllegalArgumentException.class, () -> desk.forge.run(-1));
        Desk.dueThrow("run(3001)", IllegalArgumentException.class, () -> desk.forge.run(3001));
        Desk.dueThrow("run(least)", IllegalArgumentException.class,
                () -> desk.forge.run(Integer.MIN_VALUE));
        desk.answers("", 1, 0).stack(3);
        desk.answers("cr", 1, 0);
        Desk.dueThrow("run(9999)", IllegalArgumentException.class, () -> desk.forge.run(9999));
        desk.wrote("\n").count(6, 1);
        new Desk().answers(": a begin 0 until ; a", 3000, -28).count(6, 3000);
        new Desk().answers("5", 0, 0).answers("drop", 0, -28).stack().count(6, 0);
    }

    private static void output() {
        Desk desk = Desk.after("72 emit 105 emit");
        desk.wrote("Hi");
        Desk.dueThrow("output(-1)", IndexOutOfBoundsException.class, () -> desk.forge.output(-1));
        Desk.dueThrow("output(2)", IndexOutOfBoundsException.class, () -> desk.forge.output(2));
        desk.answers("1 . oops", -13).wrote("1 ");
        desk.answers("", 0).wrote("");
        Desk much = Desk.after(": a 299 0 do 65 emit loop ; a 123 .");
        much.wrote(Desk.times(299, "A") + "1");
        Desk.dueThrow("output(300)", IndexOutOfBoundsException.class, () -> much.forge.output(300));
        much.answers("7 .", 0).wrote("7 ");
    }

    private static void stack() {
        Desk desk = Desk.after("11 22 33").stack(11, 22, 33);
        Desk.dueThrow("stack(-1)", IndexOutOfBoundsException.class, () -> desk.forge.stack(-1));
        Desk.dueThrow("stack(3)", IndexOutOfBoundsException.class, () -> desk.forge.stack(3));
        desk.answers("drop", 0).stack(11, 22);
        Desk.dueThrow("stack(2)", IndexOutOfBoundsException.class, () -> desk.forge.stack(2));
    }

    private static void cell() {
        Desk desk = Desk.after("5 0 ! 7 399 !").cells(0, 5, 0).cells(398, 0, 7);
        Desk.dueThrow("cell(-1)", IndexOutOfBoundsException.class, () -> desk.forge.cell(-1));
        Desk.dueThrow("cell(400)", IndexOutOfBoundsException.class, () -> desk.forge.cell(400));
    }

    private static void word() {
        Desk desk = Desk.after("variable v 4 constant c : w ; immediate : k create does> ; k b : u");
        desk.word(0, 0, 0).word(0, 1, 2).word(0, 2, 0).word(0, 3, WordForge.NONE).word(0, 4, 1);
        desk.word(1, 0, 1).word(1, 1, 3).word(1, 2, 0).word(1, 3, WordForge.NONE).word(1, 4, 1);
        desk.word(2, 0, 2).word(2, 1, 1).word(2, 2, 1).word(2, 3, WordForge.NONE).word(2, 4, 1);
        desk.word(4, 0, 6).word(4, 1, 2).word(4, 2, 0).word(4, 3, 5).word(4, 4, 1);
        desk.word(5, 0, 6).word(5, 1, 1).word(5, 2, 0).word(5, 3, WordForge.NONE).word(5, 4, 0);
        Desk.dueThrow("word(-1, 0)", IndexOutOfBoundsException.class, () -> desk.forge.word(-1, 0));
        Desk.dueThrow("word(6, 0)", IndexOutOfBoundsException.class, () -> desk.forge.word(6, 0));
        Desk.dueThrow("word(6, 9)", IndexOutOfBoundsException.class, () -> desk.forge.word(6, 9));
        Desk.dueThrow("word(5, 5)", IllegalArgumentException.class, () -> desk.forge.word(5, 5));
        Desk.dueThrow("word(0, -1)", IllegalArgumentException.class, () -> desk.forge.word(0, -1));
    }

    private static void count() {
        Desk desk = Desk.after("1 2 3 >r 9 . ' abs catch : a begin if do");
        desk.count(0, 2).count(1, 3).count(2, 1).count(3, 3).count(4, 1).count(5, 1);
        desk.count(6, 9).count(7, 0).count(8, 3);
        desk.count(-1, WordForge.NONE).count(9, WordForge.NONE);
        desk.answers("", 0).count(0, 0).count(6, 0).count(8, 3).count(5, 1);
        desk = Desk.after("' drop catch ' drop catch drop ' drop catch ' + catch");
        desk.stack(-4, -4).count(7, 3).answers("", 0).count(7, 0);
    }
}
