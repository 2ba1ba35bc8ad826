/** The boundary cases of the words 53 .. 81, sentence by sentence. */
public final class MakingSentencesTest {
    private static final String TWELVE = Desk.times(12, "begin ");
    /** Inside of a definition: HERE becomes 400, or a few less, so that no more cells are free. */
    private static final String NONE_FREE = "[ 400 here - allot ]";
    private static final String ONE_FREE = "[ 399 here - allot ]";
    private static final String TWO_FREE = "[ 398 here - allot ]";
    private static final String[] STRUCTURES = {"if", "else", "then", "begin", "until", "while",
        "repeat", "do", "loop", "+loop"};


    public static void main(String[] args) {
        colon();
        data();
        whileMaking();
        does();
        names();
        numbersOfWords();
        literals();
        postpone();
        brackets();
        immediateOnes();
        onlyCompiling();
        ifs();
        begins();
        loops();
        openThings();
        throwing();
        catching();
        comment();
        Sentence.end();
    }

    private static void colon() {
        Sentence.holds("53 : and a name: a colon word is begun at HERE, compiling.", () -> {
            Desk.after(": a").count(5, 1).count(4, 1).word(0, 0, 0).word(0, 1, 1).word(0, 4, 0);
            // it needs no free cell to begin
            Desk.after("400 allot : a").count(5, 1).word(0, 0, 400);
            Desk.meets("5", ":", "", -16);
            Desk.meets("5", ":", "abcdefghij", -19);
        });
        Sentence.holds("54 ; ! *: 0 is appended, the word is finished, one is not compiling any"
                + " more (-22 if something is open).", () -> {
            Desk.after(": a ;").cells(0, 0).count(3, 1).word(0, 4, 1).count(5, 0);
            Desk.after("5 0 ! : a ;").cells(0, 0);
            for (String open : new String[] {"if", "begin", "begin while", "do"}) {
                new Desk().answers(": a " + open + " ;", -22).count(4, 0).count(8, 0);
                Desk.meetsCompiling("", open, ";", "", -22);
            }
            Desk.after("399 allot : a ;").count(3, 400).word(0, 4, 1);
            new Desk().answers("400 allot : a ;", -8).count(4, 0);
            Desk.meetsCompiling("", NONE_FREE, ";", "", -8);
            Desk.meets(": a [", ";", "", -14);
            new Desk().answers(";", -14);
        });
    }

    private static void data() {
        Sentence.holds("55 constant n -- and a name: a CONSTANT at HERE, n is appended.", () -> {
            Desk.after("-2147483648 constant c c").stack(Desk.LEAST).word(0, 1, 3).count(3, 1);
            Desk.after("399 allot 7 constant c c").stack(7).count(3, 400);
            Desk.meets("400 allot 7", "constant", "c", -8);
            Desk.meets("7", "constant", "", -16);
            Desk.meets("7", "constant", "abcdefghij", -19);
            // without a number the name is not parsed
            Desk.after("' constant catch 5").stack(-4, 5);
        });
        Sentence.holds("56 variable and a name: a PLACE word at HERE, 0 is appended.", () -> {
            Desk.after("5 0 ! variable v v").stack(0).cells(0, 0).word(0, 1, 2).count(3, 1);
            Desk.after("399 allot variable v v").stack(399).count(3, 400);
            Desk.meets("400 allot 7", "variable", "v", -8);
            Desk.meets("7", "variable", "", -16);
        });
        Sentence.holds("57 create and a name: a PLACE word at HERE.", () -> {
            Desk.after("5 0 ! create x x").stack(0).cells(0, 5).word(0, 1, 2).count(3, 0);
            Desk.after("400 allot create x x").stack(400).word(0, 0, 400);
            Desk.meets("7", "create", "", -16);
        });
        Sentence.holds("(These three are finished at once.", () -> {
            Desk.after("7 constant c c variable v v create x x").stack(7, 1, 2).word(0, 4, 1)
                    .word(1, 4, 1).word(2, 4, 1).count(5, 0);
            // so they stay when an error follows
            new Desk().answers("7 constant c variable v create x oops", -13).count(4, 3)
                    .count(3, 2);
        });
    }

    private static void whileMaking() {
        Sentence.holds("53, 55, 56, 57: -29 when a word is being made, then the name is"
                + " parsed.)", () -> {
            for (String name : new String[] {":", "constant", "variable", "create"}) {
                Desk.meets(": a [ 7", name, "", -29);
                Desk.after(": a [ 7 ' " + name + " catch 5").stack(7, -29, 5);
                new Desk().answers(": a [ 7 " + name + " b", -29).count(4, 0);
                Desk.after(": a [ ] ; 7 " + name + " b").count(4, 2);
            }
            // also when one is compiling, by an immediate word
            new Desk().answers(": m create ; immediate : a m b", -29).count(4, 1);
        });
    }

    private static void does() {
        Sentence.holds("58 does> ! *: 7 is appended.", () -> {
            Desk.after("399 allot : a does>").cells(399, 7).count(3, 400);
            new Desk().answers("400 allot : a does>", -8);
            Desk.meetsCompiling("", NONE_FREE, "does>", "", -8);
            new Desk().answers("does>", -14);
            // open things do not stand in its way
            Desk.after(": a if does>").cells(0, 3, 0, 7).count(8, 1);
        });
        Sentence.holds("59 immediate: the latest word, finished or not, is immediate (-32 when"
                + " there is no made one).", () -> {
            new Desk().answers("immediate", -32);
            Desk.meets("5", "immediate", "", -32);
            Desk.after(": a ; : b ; immediate").word(0, 2, 0).word(1, 2, 1);
            Desk.after(": a [ immediate ] 3 ; : b a").stack(3);
            Desk.after("create a immediate : b a").stack(0).word(0, 2, 1);
            Desk.after("7 constant a immediate immediate : b a").stack(7).word(0, 2, 1);
            // the one that went is none any more
            new Desk().answers(": a oops", -13).answers("immediate", -32);
            new Desk().answers(": a [ immediate oops", -13).answers(": b", 0).word(0, 2, 0);
        });
    }

    private static void names() {
        Sentence.holds("60 ' and a name -- its word's number (-13 if it means none).", () -> {
            Desk.after("' exit ' ( : a ; ' a").stack(0, 81, 82);
            Desk.meets("5", "'", "oops", -13);
            Desk.meets("5", "'", "7", -13);
            Desk.meets("5", "'", "", -16);
            new Desk().answers(": a [ ' a", -13);
            Desk.after(Desk.ALMOST_FULL_STACK + "' dup").count(1, 30);
            new Desk().answers(Desk.FULL_STACK + "' dup", -3);
        });
        Sentence.holds("61 ['] ! * and a name: 1 and its word's number are appended (-13"
                + " likewise).", () -> {
            Desk.after("398 allot : a ['] dup").cells(398, 1, 8).count(3, 400);
            new Desk().answers("399 allot : a ['] dup", -8).cells(399, 0).count(3, 399);
            Desk.meetsCompiling("", ONE_FREE, "[']", "dup", -8);
            Desk.meetsCompiling("", "", "[']", "oops", -13);
            Desk.meetsCompiling("", "", "[']", "a", -13);
            Desk.meetsCompiling("", "", "[']", "", -16);
            // an immediate word is not carried out by it
            Desk.after(": a ['] if").cells(0, 1, 69).count(8, 0);
        });
        Sentence.holds("execute, catch and ' , ['], postpone, compile, ask -9 and -13 of the number"
                + " or name that they have.", () -> {
            for (String name : new String[] {"execute", "catch", "compile,"}) {
                Desk.meets("5 82", name, "", -9);
                Desk.meets("5 -1", name, "", -9);
                // the number is asked for first
                Desk.meets("", name, "", -4);
            }
            Desk.meets("5", "'", "oops", -13);
            Desk.meetsCompiling("5", "", "[']", "oops", -13);
            Desk.meetsCompiling("5", "", "postpone", "oops", -13);
            // a number is no name of a word, and a name that is too long is asked for before
            Desk.meetsCompiling("5", "", "postpone", "82", -13);
            Desk.meetsCompiling("5", "", "postpone", "abcdefghij", -19);
        });
    }

    private static void numbersOfWords() {
        Sentence.holds("62 execute w --: word w is carried out.", () -> {
            Desk.after("5 8 execute").stack(5, 5);
            Desk.after("81 execute 1 2 ) 3").stack(3);
            Desk.after(": a 4 ; 82 execute").stack(4);
            Desk.meets("5 82", "execute", "", -9);
            Desk.meets("5 -1", "execute", "", -9);
            // its number is off the stack when the word comes
            Desk.after(Desk.ALMOST_FULL_STACK + "15 execute").count(1, 30);
            Desk.after("15 execute").stack(0);
        });
        Sentence.holds("63 compile, w --: w is appended (-9 if it is no word's number).", () -> {
            Desk.after("0 compile, 81 compile, create x 82 compile,").cells(0, 0, 81, 82).stack();
            Desk.meets("82", "compile,", "", -9);
            Desk.meets("-1", "compile,", "", -9);
            Desk.after(": a [ 82 compile,").cells(0, 82);
            Desk.after("399 allot 8 compile,").cells(399, 8);
            Desk.meets("400 allot 8", "compile,", "", -8);
            Desk.meets("400 allot 82", "compile,", "", -9);
        });
    }

    private static void literals() {
        Sentence.holds("64 literal ! * n --: 1 and n are appended.", () -> {
            Desk.after("-2147483648 398 allot : a literal").cells(398, 1, Desk.LEAST).stack();
            Desk.meetsCompiling("5", ONE_FREE, "literal", "", -8);
            Desk.meetsCompiling("5", NONE_FREE, "literal", "", -8);
            Desk.meetsCompiling("", "", "literal", "", -4);
            Desk.meets("5", "literal", "", -14);
        });
        Sentence.holds("68 recurse ! *: the number of the word that is being made is"
                + " appended.", () -> {
            Desk.after("create x : a recurse").cells(0, 83).count(3, 1);
            Desk.after("399 allot : a recurse").cells(399, 82);
            Desk.meetsCompiling("", NONE_FREE, "recurse", "", -8);
            Desk.meets(": a [", "recurse", "", -14);
            new Desk().answers("recurse", -14);
        });
    }

    private static void postpone() {
        Sentence.holds("65 postpone ! * and a name: the number of an immediate word is appended; of"
                + " another one 1, it and 63 are (-13 likewise).", () -> {
            Desk.after("399 allot : a postpone if").cells(399, 69).count(8, 0);
            Desk.after("397 allot : a postpone dup").cells(397, 1, 8, 63);
            Desk.after(": m ; immediate : a postpone m").cells(1, 82);
            Desk.meetsCompiling("", NONE_FREE, "postpone", "if", -8);
            Desk.meetsCompiling("", TWO_FREE, "postpone", "dup", -8);
            Desk.meetsCompiling("", ONE_FREE, "postpone", "dup", -8);
            Desk.meetsCompiling("", NONE_FREE, "postpone", "dup", -8);
            Desk.meetsCompiling("", "", "postpone", "oops", -13);
            Desk.meetsCompiling("", "", "postpone", "a", -13);
            Desk.meetsCompiling("", "", "postpone", "", -16);
            new Desk().answers("postpone dup", -14);
        });
    }

    private static void brackets() {
        Sentence.holds("66 [ !: one is not compiling (a word goes on being made).", () -> {
            Desk.after(": a [").count(5, 0).count(4, 1).word(0, 4, 0).answers(": b", -29);
            // also when one is not compiling, or makes no word
            Desk.after("[ [").count(5, 0);
            Desk.after(": a [ [ ]").count(5, 1);
        });
        Sentence.holds("67 ]: one is compiling (-14 when no word is being made).", () -> {
            new Desk().answers("]", -14);
            Desk.meets("create x 5", "]", "", -14);
            Desk.meets(": a ; 5", "]", "", -14);
            Desk.after(": a [ ]").count(5, 1);
            Desk.after(": a ]").cells(0, 67).count(5, 1);
            // with no number asked of the stack, full or empty
            Desk.after(": a [ " + Desk.FULL_STACK + "]").count(5, 1).count(1, 30);
        });
    }

    private static void immediateOnes() {
        Sentence.holds("immediate ones with !", () -> {
            for (int number = 0; number < Desk.NAMES.length; number++) {
                String name = Desk.NAMES[number];
                if (Desk.isImmediate(name)) {
                    // it is carried out, with the error that it meets here if there is one
                    Desk desk = new Desk().type(": a " + name);
                    desk.forge.run(Desk.FULL);
                    desk.count(6, 2);
                } else if (!name.isEmpty()) {
                    Desk.after(": a " + name).cells(0, number).count(3, 1).count(6, 1);
                }
            }
        });
    }

    private static void onlyCompiling() {
        Sentence.holds("those with * ask first whether one is compiling: else -14)", () -> {
            String[] only = {";", "does>", "[']", "literal", "postpone", "recurse", "if", "else",
                "then", "begin", "until", "while", "repeat", "do", "loop", "+loop"};
            for (String name : only) {
                new Desk().answers(name, -14);
                new Desk().answers("5 " + name + " dup", -14).count(6, 1);
                Desk.meets("5", name, "", -14);
                Desk.meets(": a [ 5", name, "", -14);
            }
            // those without it ask nothing of the kind
            Desk.after("[ ( x ) 8 compile, : a ; immediate").cells(0, 8).word(0, 2, 1);
        });
    }

    private static void ifs() {
        Sentence.holds("69 if ! *: 3 and 0 are appended, an open IF.", () -> {
            Desk.after("398 allot : a if").cells(398, 3, 0).count(8, 1);
            Desk.meetsCompiling("", ONE_FREE, "if", "", -8);
            Desk.meetsCompiling("", TWELVE, "if", "", -22);
        });
        Sentence.holds("70 else ! *: 2 and 0 are appended, the latest open thing, an if, gets HERE"
                + " then in its second number, and this is an open if instead.", () -> {
            Desk.after(": a if else").cells(0, 3, 4, 2, 0).count(8, 1);
            Desk.after("396 allot : a if else").cells(396, 3, 400, 2, 0).count(3, 400);
            Desk.meetsCompiling("", "if " + ONE_FREE, "else", "", -8);
            // twelve open things stay twelve
            Desk.after(": a " + Desk.times(12, "if ") + "else").count(8, 12);
            Desk.after(": a if else else").cells(0, 3, 4, 2, 6, 2, 0).count(8, 1);
        });
        Sentence.holds("71 then ! *: the latest open thing, an if, gets HERE in its second"
                + " number.", () -> {
            Desk.after(": a if then").cells(0, 3, 2, 0).count(8, 0).count(3, 2);
            Desk.after(": a if else then").cells(0, 3, 4, 2, 4).count(8, 0);
            // it needs no free cell
            Desk.after("398 allot : a if then").cells(398, 3, 400).count(8, 0);
            Desk.after(": a if if then").cells(0, 3, 0, 3, 4).count(8, 1);
        });
    }

    private static void begins() {
        Sentence.holds("72 begin ! *: an open BEGIN at HERE.", () -> {
            Desk.after("400 allot : a begin").count(8, 1).count(3, 400);
            Desk.after(": a " + TWELVE).count(8, 12);
            Desk.meetsCompiling("", TWELVE, "begin", "", -22);
        });
        Sentence.holds("73 until ! *: 3 and the place of the latest open thing, a begin, are"
                + " appended.", () -> {
            Desk.after("398 allot : a begin until").cells(398, 3, 398).count(8, 0);
            Desk.after("7 allot : a begin begin until").cells(7, 3, 7).count(8, 1);
            Desk.meetsCompiling("", "begin " + ONE_FREE, "until", "", -8);
        });
        Sentence.holds("74 while ! *: 3 and 0 are appended, an open WHILE above the latest open"
                + " thing, a begin.", () -> {
            Desk.after("398 allot : a begin while").cells(398, 3, 0).count(8, 2);
            Desk.meetsCompiling("", "begin " + ONE_FREE, "while", "", -8);
            Desk.after(": a " + Desk.times(11, "begin ") + "while").count(8, 12);
            Desk.meetsCompiling("", TWELVE, "while", "", -22);
            // the while is the latest one then, so a second one has no begin
            Desk.meetsCompiling("", "begin while", "while", "", -22);
        });
        Sentence.holds("75 repeat ! *: 2 and the place of the begin below the latest open thing, a"
                + " while, are appended, and that while gets HERE then in its second"
                + " number.", () -> {
            Desk.after("396 allot : a begin while repeat").cells(396, 3, 400, 2, 396)
                    .count(8, 0);
            Desk.meetsCompiling("", "begin while " + ONE_FREE, "repeat", "", -8);
            Desk.after(": a begin begin while repeat").count(8, 1);
            Desk.after(": a begin dup while 1- repeat ; 3 a").stack(0);
            Desk.after(": a begin dup while 1- repeat ; 0 a").stack(0);
        });
    }

    private static void loops() {
        Sentence.holds("76 do ! *: 4 is appended, an open DO at HERE then.", () -> {
            Desk.after("399 allot : a do").cells(399, 4).count(8, 1).count(3, 400);
            Desk.meetsCompiling("", NONE_FREE, "do", "", -8);
            Desk.meetsCompiling("", TWELVE, "do", "", -22);
        });
        Sentence.holds("77 loop ! *: 5 and the place of the latest open thing, a do, are"
                + " appended.", () -> {
            Desk.after("397 allot : a do loop").cells(397, 4, 5, 398).count(8, 0);
            Desk.meetsCompiling("", "do " + ONE_FREE, "loop", "", -8);
            Desk.after(": a do do loop").cells(0, 4, 4, 5, 2).count(8, 1);
            Desk.after(": a 1 0 do i loop ; a").stack(0).count(2, 0);
            Desk.after(": a -2147483648 2147483647 do i loop ; a").stack(Integer.MAX_VALUE);
        });
        Sentence.holds("78 +loop ! *: 6 and the same.", () -> {
            Desk.after("397 allot : a do +loop").cells(397, 4, 6, 398).count(8, 0);
            Desk.meetsCompiling("", "do " + ONE_FREE, "+loop", "", -8);
            Desk.after(": a 0 2 do i -1 +loop ; a").stack(2, 1, 0).count(2, 0);
            Desk.after(": a 5 0 do i 2147483647 +loop ; a").stack(0);
        });
    }

    private static void openThings() {
        Sentence.holds("-22 if the latest open thing is another one", () -> {
            fits("", "if begin do");
            fits("if", "if begin do else then");
            fits("begin", "if begin do until while");
            fits("begin while", "if begin do repeat");
            fits("do", "if begin do loop +loop");
            // the latest one counts, not one that is below it
            fits("if begin", "if begin do until while");
            fits("begin if", "if begin do else then");
            fits("do if", "if begin do else then");
            fits("begin do", "if begin do loop +loop");
        });
        Sentence.holds("or more than 12 would be open.)", () -> {
            for (String name : new String[] {"if", "begin", "while", "do"}) {
                new Desk().answers(": a " + TWELVE + name, -22).count(8, 0).count(4, 0);
                Desk.after(": a " + Desk.times(11, "begin ") + name).count(8, 12);
            }
            // at twelve, things can be closed, and opened again
            Desk.after(": a " + TWELVE + "until begin").count(8, 12);
        });
        Sentence.holds("(Things that are done with are open no more.", () -> {
            Desk.after(": a if then begin until begin while repeat do loop do +loop").count(8, 0)
                    .answers(";", 0).count(4, 1);
        });
    }

    private static void fits(String open, String fitting) {
        for (String name : STRUCTURES) {
            boolean fits = (" " + fitting + " ").contains(" " + name + " ");
            new Desk().answers(": a " + open + " " + name, fits ? 0 : -22);
            if (!fits) {
                Desk.meetsCompiling("", open, name, "", -22);
            }
        }
    }

    private static void throwing() {
        Sentence.holds("79 throw n --: n is taken; for 0 that is all, else the error n is"
                + " met.", () -> {
            Desk.after("7 0 throw").stack(7);
            Desk.after("7 0 ' throw catch").stack(7, 0).count(7, 0);
            new Desk().answers("1 throw", 1);
            new Desk().answers("-1 throw", -1);
            new Desk().answers("-2147483648 throw", Desk.LEAST);
            Desk.after("7 5 ' throw catch").stack(7, 0, 5).count(7, 1);
            // an error that is thrown is met as any other one
            Desk.after("-28 ' throw catch").stack(0, -28).count(7, 1);
            new Desk().answers("throw", -4);
        });
    }

    private static void catching() {
        Sentence.holds("80 catch w --: a CATCH comes into the row of calls, noting how many numbers"
                + " stack and store have then, and word w is carried out", () -> {
            Desk.after("15 catch").stack(0, 0);
            Desk.after("7 15 catch").stack(7, 1, 0);
            // w is not among the numbers that it notes
            Desk.after("9 catch").stack(-4);
            Desk.after("7 >r : t r> drop 5 throw ; ' t catch r>").stack(5, 0);
            Desk.meets("5 82", "catch", "", -9);
            Desk.meets("5 -1", "catch", "", -9);
            Desk.meets("", "catch", "", -4);
            Desk.after(": a 1+ dup 29 < if recurse else ['] cr catch then ; 0 a")
                    .stack(29, 0);
            new Desk().answers(": a 1+ dup 30 < if recurse else ['] cr catch then ; 0 a", -5);
            // the CATCH that is the thirtieth gets the error of the call that finds no place
            Desk.after(": b ; : a 1+ dup 29 < if recurse else ['] b catch then ; 0 a")
                    .stack(29, -5).count(7, 1);
        });
        Sentence.holds("when the CATCH is the latest of the row again, it is done: it goes, and 0"
                + " is put on the stack", () -> {
            Desk.after(": a 5 ; ' a catch 6").stack(5, 0, 6);
            Desk.after(": a exit 5 ; ' a catch").stack(0);
            // the next call in the row is a call again, where the CATCH was
            Desk.after("' cr catch : a 5 6 ; a").stack(0, 5, 6);
            Desk.after("' variable catch x x").stack(0, 0);
            Desk.after("3 ' dup 80 80 catch").stack(3, 3, 0, 0, 0);
            Desk.after(Desk.times(28, "1 ") + "' dup catch").count(1, 30).count(7, 0);
        });
        Sentence.holds("(-3 when this is full: an error that it does not get any more).", () -> {
            new Desk().answers(Desk.ALMOST_FULL_STACK + "' dup catch", -3).stack().count(7, 0);
            new Desk().answers(": a 1 ; " + Desk.ALMOST_FULL_STACK + "' a catch", -3).stack()
                    .count(7, 0);
            // the CATCH below it gets it
            Desk desk = Desk.after(Desk.ALMOST_FULL_STACK + ": a ['] dup catch ; ' a catch");
            desk.count(7, 1).count(1, 30);
            Desk.due("the error", desk.forge.stack(29), -3);
        });
    }

    private static void comment() {
        Sentence.holds("81 ( !: the text up to the next ), with it, is passed over (or"
                + " all).", () -> {
            Desk.after("1 ( 2 3 ) 4").stack(1, 4);
            Desk.after("1 ( ) 4").stack(1, 4);
            Desk.after("1 ( 2)3").stack(1, 3);
            Desk.after("1 ( ( 2 ) 3").stack(1, 3);
            Desk.after("1 ( 2 3").stack(1);
            Desk.after("1 (").stack(1);
            Desk.after("1 ( 2").answers("3 ) 4", -13);
            // in a text of 200 characters
            Desk.after("( " + Desk.times(196, "x") + ")5").stack(5);
            Desk.after("( " + Desk.times(197, "x") + ")").stack();
            Desk.after("( " + Desk.times(198, "x")).stack();
            Desk.after(": a ( 1 ) 2 ; a").stack(2);
            Desk.after("1 ( " + Desk.times(50, "\n") + " ) 2").stack(1, 2);
            // the ( must be a name
            new Desk().answers("(1)", -13);
        });
    }
}
