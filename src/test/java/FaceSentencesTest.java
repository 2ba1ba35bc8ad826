import java.lang.reflect.Executable;
import java.lang.reflect.Field;
import java.lang.reflect.Method;
import java.lang.reflect.Modifier;
import java.util.Arrays;
import java.util.TreeSet;

/** The boundary cases of the face, promises 1 to 8 and the output, sentence by sentence. */
public final class FaceSentencesTest {
    private static final Class<? extends RuntimeException> NO_INDEX =
            IndexOutOfBoundsException.class;
    private static final Class<? extends RuntimeException> NO_ARGUMENT =
            IllegalArgumentException.class;

    public static void main(String[] args) {
        use();
        newObject();
        type();
        run();
        output();
        stack();
        cell();
        word();
        count();
        Sentence.end();
    }

    private static void use() {
        Sentence.holds("An object is used for at most 512 calls after it has been made", () -> {
            WordForge forge = new WordForge();
            int calls = 0;
            for (; calls < 200; calls++) {
                Desk.due("type, call " + calls, forge.type(calls == 0 ? '7' : ' '), true);
            }
            Desk.due("run", forge.run(0), 0);
            for (calls++; calls < 511; calls++) {
                Desk.due("call " + calls, forge.count(1), 1);
            }
            Desk.due("the 512th call", forge.stack(0), 7);
        });
        Sentence.holds("public final class WordForge {", () -> {
            TreeSet<String> face = new TreeSet<>();
            for (Method method : WordForge.class.getDeclaredMethods()) {
                if (!Modifier.isPrivate(method.getModifiers()) && !method.isSynthetic()) {
                    face.add(method.getReturnType() + " " + method.getName()
                            + Arrays.toString(method.getParameterTypes()));
                }
            }
            for (Field field : WordForge.class.getDeclaredFields()) {
                if (!Modifier.isPrivate(field.getModifiers())) {
                    face.add(field.toString());
                }
            }
            Desk.due("the face", face.toString(), "[boolean type[char], char output[int],"
                    + " int cell[int], int count[int], int run[int], int stack[int],"
                    + " int word[int, int], public static final int WordForge.NONE]");
            int constructors = WordForge.class.getDeclaredConstructors().length;
            Desk.due("the constructors", constructors, 1);
            Desk.due("final", Modifier.isFinal(WordForge.class.getModifiers()), true);
        });
        Sentence.holds("public static final int NONE = -1;",
                () -> Desk.due("NONE", WordForge.NONE, -1));
        faceLine("public WordForge();", "WordForge");
        faceLine("public boolean type(char c);", "type", char.class);
        faceLine("public int run(int fuel) throws IllegalArgumentException;", "run", int.class);
        faceLine("public char output(int k) throws IndexOutOfBoundsException;", "output", int.class);
        faceLine("public int stack(int k) throws IndexOutOfBoundsException;", "stack", int.class);
        faceLine("public int cell(int a) throws IndexOutOfBoundsException;", "cell", int.class);
        faceLine("public int word(int k, int what) throws IndexOutOfBoundsException,"
                + " IllegalArgumentException;", "word", int.class, int.class);
        faceLine("public int count(int what);", "count", int.class);
    }

    private static void faceLine(String line, String name, Class<?>... parameters) {
        Sentence.holds(line, () -> {
            // the class itself does not keep the names of its parameters
            String want = line.replaceAll(" (c|k|a|fuel|what)\\b", "").replace(";", "");
            Desk.due("the line of " + name, declared(name, parameters), want);
        });
    }

    private static String declared(String name, Class<?>... parameters) {
        try {
            Executable member = name.equals("WordForge")
                    ? WordForge.class.getDeclaredConstructor(parameters)
                    : WordForge.class.getDeclaredMethod(name, parameters);
            return member.toString().replace("WordForge.", "").replace("java.lang.", "")
                    .replace(",", ", ");
        } catch (NoSuchMethodException e) {
            return "nothing";
        }
    }

    private static void newObject() {
        Sentence.holds("Nothing was made or typed.", () -> {
            Desk desk = new Desk();
            for (int what = 0; what <= 8; what++) {
                desk.count(what, 0);
            }
            desk.cells(0, new int[400]);
            throwsOf(NO_INDEX, "output(0)", () -> desk.forge.output(0));
            throwsOf(NO_INDEX, "stack(0)", () -> desk.forge.stack(0));
            throwsOf(NO_INDEX, "word(0, 0)", () -> desk.forge.word(0, 0));
            desk.answers("", 0, 0).count(6, 0).stack();
            // what one object was given is not there in another one
            Desk.after("variable v 5 0 ! 1 2 >r cr").type("3 ");
            new Desk().answers("", 0, 0).stack().cells(0, 0).count(2, 0).count(4, 0);
        });
    }

    private static void type() {
        Sentence.holds("Appends a character to the text: true; refused (false) when it has"
                + " 200.", () -> {
            Desk desk = new Desk().type(Desk.times(198, " ") + "45");
            Desk.due("the 201st", desk.forge.type('6'), false);
            Desk.due("the 201st again", desk.forge.type('7'), false);
            desk.answers("", 0, 0).stack(45);
            // the text went with the run, so that there is room again
            desk.type(Desk.times(200, " "));
            Desk.due("the 201st behind a run", desk.forge.type('8'), false);
            desk.answers("", 0, 0).stack(45);
        });
        Sentence.holds("Appends a character to the text: true", () -> {
            for (char c : new char[] {0, 1, 9, 10, 32, 127, 128, 255, 256, 0xffff}) {
                Desk.due("type(" + (int) c + ")", new WordForge().type(c), true);
            }
            char[] name = {0, 127, 255, 256, 266, 288, 0xffff};
            String text = new String(name);
            Desk.after(": " + text + " 7 ; " + text).stack(7);
        });
    }

    private static void run() {
        Sentence.holds("Interprets the text, which goes then", () -> {
            Desk.after("5").answers("", 0).stack(5).answers("6", 0).stack(5, 6);
            new Desk().answers("oops 5", -13).answers("", 0).stack();
            new Desk().answers("cr 5", 0, -28).answers("", 0).stack().wrote("").count(6, 0);
        });
        Sentence.holds("with so many steps: 0, or the error.", () -> {
            new Desk().answers("", 0, 0).count(6, 0);
            new Desk().answers("5 6", 0, 0).count(6, 0).stack(5, 6);
            new Desk().answers("cr", 0, -28).count(6, 0).wrote("");
            new Desk().answers("cr", 1, 0).count(6, 1).wrote("\n");
            new Desk().answers("cr cr", 1, -28).count(6, 1).wrote("\n");
            String endless = ": a begin 0 until ; a";
            new Desk().answers(endless, 3000, -28).count(6, 3000);
            new Desk().answers(endless, 2999, -28).count(6, 2999);
            // each run has its steps anew
            new Desk().answers("cr", 1, 0).answers("cr", 1, 0).count(6, 1);
            new Desk().answers("-2147483648 throw", Desk.LEAST);
            new Desk().answers("2147483647 throw", Desk.MOST);
        });
        Sentence.holds("IllegalArgumentException when fuel is not 0 .. 3000.", () -> {
            Desk desk = Desk.after("9 . ' drop catch").type("7");
            for (int fuel : new int[] {-1, 3001, Desk.LEAST, Desk.MOST}) {
                throwsOf(NO_ARGUMENT, "run(" + fuel + ")", () -> desk.forge.run(fuel));
            }
            // the refused call has changed nothing: text, output, stack, steps, caught errors
            desk.wrote("9 ").stack(-4).count(6, 4).count(7, 1);
            desk.answers("", 0, 0).stack(-4, 7);
            new Desk().answers("8", 3000, 0).stack(8);
        });
    }

    private static void output() {
        Sentence.holds("OUTPUT keeps the first 300 characters of a run.", () -> {
            Desk desk = Desk.after(": a 299 0 do 65 emit loop ; a 66 emit");
            desk.wrote(Desk.times(299, "A") + "B");
            desk = Desk.after(": a 299 0 do 65 emit loop ; a 66 emit 67 emit");
            desk.wrote(Desk.times(299, "A") + "B");
            // a number is cut where the room ends
            desk = Desk.after(": a 297 0 do 65 emit loop ; a -1234 .");
            desk.wrote(Desk.times(297, "A") + "-12");
            desk = Desk.after(": a 299 0 do 65 emit loop ; a 7 . 8 .");
            desk.wrote(Desk.times(299, "A") + "7");
            // what is not kept is no error, and the next run has all its room again
            desk = Desk.after(": a 301 0 do cr loop 5 ; a").stack(5).count(0, 300);
            desk.answers("drop a", 0).count(0, 300).answers("6 .", 0).wrote("6 ");
        });
        Sentence.holds("Character k of the output of the latest run. IndexOutOfBoundsException when"
                + " there is none.", () -> {
            Desk desk = Desk.after("72 emit 105 emit");
            Desk.due("output(0)", desk.forge.output(0), 'H');
            Desk.due("output(1)", desk.forge.output(1), 'i');
            for (int k : new int[] {-1, 2, 299, 300, Desk.LEAST, Desk.MOST}) {
                throwsOf(NO_INDEX, "output(" + k + ")", () -> desk.forge.output(k));
            }
            desk.answers("74 emit", 0);
            Desk.due("output(0) of the next run", desk.forge.output(0), 'J');
            throwsOf(NO_INDEX, "output(1)", () -> desk.forge.output(1));
            desk.answers("", 0);
            throwsOf(NO_INDEX, "output(0)", () -> desk.forge.output(0));
            Desk full = Desk.after(": a 301 0 do 65 emit loop ; a");
            Desk.due("output(299)", full.forge.output(299), 'A');
            throwsOf(NO_INDEX, "output(300)", () -> full.forge.output(300));
            // an error does not take away what has been written
            new Desk().answers("72 emit oops 73 emit", -13).wrote("H");
        });
    }

    private static void stack() {
        Sentence.holds("Number k of the stack, from its bottom (0). IndexOutOfBoundsException when"
                + " there is none.", () -> {
            Desk desk = Desk.after("11 22 33").stack(11, 22, 33);
            for (int k : new int[] {-1, 3, 29, 30, Desk.LEAST, Desk.MOST}) {
                throwsOf(NO_INDEX, "stack(" + k + ")", () -> desk.forge.stack(k));
            }
            desk.answers("drop", 0);
            throwsOf(NO_INDEX, "stack(2)", () -> desk.forge.stack(2));
            Desk full = Desk.after(Desk.ALMOST_FULL_STACK + "8");
            Desk.due("stack(29)", full.forge.stack(29), 8);
            throwsOf(NO_INDEX, "stack(30)", () -> full.forge.stack(30));
            full.answers("oops", -13);
            throwsOf(NO_INDEX, "stack(0)", () -> full.forge.stack(0));
        });
    }

    private static void cell() {
        Sentence.holds("Cell a. IndexOutOfBoundsException when there is none.", () -> {
            Desk desk = Desk.after("5 0 ! 6 1 ! 7 399 !").cells(0, 5, 6, 0).cells(398, 0, 7);
            for (int a : new int[] {-1, 400, Desk.LEAST, Desk.MOST}) {
                throwsOf(NO_INDEX, "cell(" + a + ")", () -> desk.forge.cell(a));
            }
            // one behind HERE is a cell as well
            desk.count(3, 0);
        });
    }

    private static void word() {
        Sentence.holds("Of made word k (0 the first one): ... IndexOutOfBoundsException when there"
                + " is no such word", () -> {
            Desk desk = Desk.after("2 allot create x create y");
            desk.word(0, 0, 2).word(1, 0, 2);
            for (int k : new int[] {-1, 2, 39, 40, 82, Desk.LEAST, Desk.MOST}) {
                throwsOf(NO_INDEX, "word(" + k + ", 0)", () -> desk.forge.word(k, 0));
            }
            // a word that is being made is there until it goes
            desk.answers(": z", 0).word(2, 4, 0).answers("oops", -13);
            throwsOf(NO_INDEX, "word(2, 4)", () -> desk.forge.word(2, 4));
        });
        Sentence.holds("else IllegalArgumentException when what is none of these.", () -> {
            Desk desk = Desk.after("create x");
            for (int what : new int[] {-1, 5, Desk.LEAST, Desk.MOST}) {
                throwsOf(NO_ARGUMENT, "word(0, " + what + ")", () -> desk.forge.word(0, what));
                throwsOf(NO_INDEX, "word(1, " + what + ")", () -> desk.forge.word(1, what));
                throwsOf(NO_INDEX, "word(-1, " + what + ")", () -> desk.forge.word(-1, what));
            }
        });
        Sentence.holds("what = 0 its place, 1 its sort: 1 colon, 2 place, 3 constant", () -> {
            Desk desk = Desk.after(": c ; variable v 7 constant n 397 allot create e");
            desk.word(0, 0, 0).word(0, 1, 1).word(1, 0, 1).word(1, 1, 2);
            desk.word(2, 0, 2).word(2, 1, 3).word(3, 0, 400).word(3, 1, 2);
        });
        Sentence.holds("2 whether it is immediate", () -> {
            Desk desk = Desk.after(": a ; : b ; immediate : c [ immediate");
            desk.word(0, 2, 0).word(1, 2, 1).word(2, 2, 1);
        });
        Sentence.holds("3 its behaviour (NONE without one)", () -> {
            Desk desk = Desk.after(": k create does> ; k x create y 1 constant z : u");
            desk.word(0, 3, -1).word(1, 3, 2).word(2, 3, -1).word(3, 3, -1).word(4, 3, -1);
        });
        Sentence.holds("4 whether it is finished.", () -> {
            Desk desk = Desk.after("variable v 1 constant c create e : u");
            desk.word(0, 4, 1).word(1, 4, 1).word(2, 4, 1).word(3, 4, 0);
            desk.answers("[", 0).word(3, 4, 0).answers("] ;", 0).word(3, 4, 1);
        });
    }

    private static void count() {
        Sentence.holds("what = 0 how many characters of output there are", () -> {
            Desk.after("1 . cr").count(0, 3).answers("", 0).count(0, 0);
            Desk.after(": a 301 0 do cr loop ; a").count(0, 300);
        });
        Sentence.holds("1 numbers on the stack, 2 in the store", () -> {
            Desk.after("1 2 3 >r").count(1, 2).count(2, 1);
            Desk desk = Desk.after(Desk.FULL_STORE).count(1, 0).count(2, 30);
            desk.answers(Desk.FULL_STACK, 0).count(1, 30).answers("1", -3);
            desk.count(1, 0).count(2, 0);
        });
        Sentence.holds("3 HERE, 4 made words", () -> {
            Desk.after("400 allot create x").count(3, 400).count(4, 1);
            Desk.after("variable x : a 5").count(3, 3).count(4, 2);
        });
        Sentence.holds("5 whether one is compiling", () -> {
            Desk.after(": a").count(5, 1).answers("[", 0).count(5, 0).answers("]", 0).count(5, 1);
            Desk.after(": a ;").count(5, 0);
            new Desk().answers(": a oops", -13).count(5, 0);
        });
        Sentence.holds("6 steps of the latest run, 7 errors that a CATCH got in it", () -> {
            Desk desk = Desk.after("' drop catch drop ' drop catch ' cr catch");
            desk.count(6, 10).count(7, 2).answers("", 0).count(6, 0).count(7, 0);
            // an error that no CATCH got is not counted, the caught ones before it are
            new Desk().answers("' drop catch oops", -13).count(6, 3).count(7, 1);
            new Desk().answers("' drop catch cr", 3, -28).count(6, 3).count(7, 1);
        });
        Sentence.holds("8 open things.", () -> {
            Desk.after(": a " + Desk.times(12, "begin ")).count(8, 12);
            Desk.after(": a if").count(8, 1).answers("then", 0).count(8, 0);
            new Desk().answers(": a if oops", -13).count(8, 0);
        });
        Sentence.holds("NONE for another what.", () -> {
            Desk desk = Desk.after(": a if");
            desk.count(-1, -1).count(9, -1).count(Desk.LEAST, -1).count(Desk.MOST, -1);
        });
    }

    private static void throwsOf(Class<? extends RuntimeException> want, String what,
            Desk.Call call) {
        Desk.dueThrow(what, want, call);
    }
}
