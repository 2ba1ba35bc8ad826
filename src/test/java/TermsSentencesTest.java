/** The boundary cases of numbers, text, words, calls and interpreting, sentence by sentence. */
public final class TermsSentencesTest {
    private static final String[] FAR = {"-1", "400", "-2147483648", "2147483647"};
    private static final String[] PARSING = {":", "1 constant", "variable", "create", "'",
        ": a [']", ": a postpone"};
    private static final String[] DEFINING = {":", "1 constant", "variable", "create"};

    public static void main(String[] args) {
        numbers();
        rows();
        memory();
        text();
        parsing();
        words();
        steps();
        madeWords();
        calls();
        interpreting();
        numbersInText();
        goingOn();
        Sentence.end();
    }

    private static void numbers() {
        Sentence.holds("NUMBERS are -2147483648 .. 2147483647, all arithmetic goes round", () -> {
            Desk.gives("2147483647 1 +", Desk.LEAST);
            Desk.gives("-2147483648 -1 +", Desk.MOST);
            Desk.gives("-2147483648 1 -", Desk.MOST);
            Desk.gives("2147483647 -1 -", Desk.LEAST);
            Desk.gives("0 -2147483648 -", Desk.LEAST);
            Desk.gives("65536 65536 *", 0);
            Desk.gives("2147483647 2 *", -2);
            Desk.gives("-2147483648 -1 *", Desk.LEAST);
            Desk.gives("-2147483648 -1 /", Desk.LEAST);
            Desk.gives("-2147483648 -1 mod", 0);
            Desk.gives("-2147483648 negate", Desk.LEAST);
            Desk.gives("-2147483648 abs", Desk.LEAST);
            Desk.gives("2147483647 1+", Desk.LEAST);
            Desk.gives("-2147483648 1-", Desk.MOST);
            Desk.gives("1073741824 2*", Desk.LEAST);
            Desk.gives("-2147483648 2*", 0);
            Desk.after("2147483647 9 ! 1 9 +!").cells(9, Desk.LEAST);
            Desk.after("-2147483648 9 ! -1 9 +!").cells(9, Desk.MOST);
        });
        Sentence.holds("a truth is -1 or 0.", () -> {
            Desk.gives("5 5 =", -1);
            Desk.gives("5 6 =", 0);
            Desk.gives("5 6 <", -1);
            Desk.gives("5 5 <", 0);
            Desk.gives("5 6 u<", -1);
            Desk.gives("5 5 u<", 0);
            Desk.gives("0 0=", -1);
            Desk.gives("-2147483648 0=", 0);
            Desk.gives("-2147483648 0<", -1);
            Desk.gives("0 0<", 0);
        });
    }

    private static void rows() {
        Sentence.holds("There are a STACK and a STORE of numbers (30 each at most)", () -> {
            Desk.after(Desk.FULL_STACK).count(1, 30);
            Desk.after(Desk.ALMOST_FULL_STACK + "dup").count(1, 30);
            Desk.after(Desk.FULL_STORE).count(2, 30);
            Desk.after(": a [ 4 , ] ; " + Desk.times(28, "1 >r ")).answers("1 2 a", 0).count(2, 30);
            // the full rows can be used and emptied
            Desk.after(Desk.times(28, "1 ") + "5 6").answers("swap - 28 pick", 0).count(1, 30);
            Desk.after(Desk.ALMOST_FULL_STORE + "7 >r").answers("r> r@", 0).stack(7, 1);
        });
        Sentence.holds("a row of CALLS (30)", () -> {
            Desk.after(": a 1+ dup 30 < if recurse then ; 0 a").stack(30);
            // the thirtieth one may be a CATCH, or the call of a behaviour
            Desk.after(": a 1+ dup 29 < if recurse else ['] cr catch then ; 0 a").stack(29, 0);
            Desk.after(": k create does> ; k x : a 1+ dup 29 < if recurse else x then ; 0 a")
                    .count(1, 2);
        });
    }

    private static void memory() {
        Sentence.holds("MEMORY of 400 CELLS, 0 at first", () -> {
            new Desk().cells(0, new int[400]);
            Desk.after("0 @ 399 @ 7 0 ! 8 399 ! 0 @ 399 @").stack(0, 0, 7, 8);
            new Desk().answers("400 @", -9);
        });
        Sentence.holds("HERE is the place of the first one that is free, 0 at first.", () -> {
            new Desk().count(3, 0);
            Desk.after("here 7 , here").stack(0, 1).cells(0, 7, 0);
            Desk.after("399 allot here 7 , here").stack(399, 400).cells(399, 7);
        });
        Sentence.holds("To APPEND a number: the cell at HERE becomes it, HERE is 1 more (-8 when"
                + " HERE is 400).", () -> {
            Desk.after("398 allot 5 , 6 ,").cells(398, 5, 6).count(3, 400);
            new Desk().answers("400 allot 5 ,", -8).count(3, 400);
            Desk.meets("400 allot 5", ",", "", -8);
            Desk.meets("400 allot 8", "compile,", "", -8);
            Desk.after("399 allot 8 compile,").cells(399, 8).count(3, 400);
            // where HERE went back, the cell is another number
            Desk.after("5 , 6 , -1 allot 7 ,").cells(0, 5, 7).count(3, 2);
        });
    }

    private static void text() {
        Sentence.holds("blanks are the characters 32 and 10.", () -> {
            Desk.after("1 2\n3").stack(1, 2, 3);
            for (char c = 0; c < 256; c++) {
                if (c != 32 && c != 10) {
                    Desk.after(": x" + c + "y 7 ; x" + c + "y").stack(7);
                }
            }
            for (char c : new char[] {256 + 32, 256 + 10, 0x2003, 0x2028, 0xffff}) {
                Desk.after(": x" + c + "y 7 ; x" + c + "y").stack(7);
            }
        });
        Sentence.holds("A NAME is a longest row of others.", () -> {
            Desk.after("1 23 4").stack(1, 23, 4);
            new Desk().answers("1 dupdup", -13);
            new Desk().answers("1 2+", -13);
            Desk.after(Desk.times(199, " ") + "7").stack(7);
            Desk.after("7" + Desk.times(199, "\n")).stack(7);
            // all 200 characters one name
            new Desk().answers(Desk.times(200, "1"), -19);
        });
    }

    private static void parsing() {
        Sentence.holds("To PARSE a name: blanks are passed over, then it is taken, with one blank"
                + " behind it if there is one", () -> {
            Desk.after("'  \n \n dup").stack(8);
            Desk.after("' dup\n\n5").stack(8, 5);
            Desk.after("variable x").count(4, 1).answers("x", 0).stack(0);
            Desk.after("variable" + Desk.times(191, "\n") + "x").count(4, 1);
        });
        Sentence.holds("(-16 if the text ends;", () -> {
            for (String word : DEFINING) {
                new Desk().answers(word + " x", 0).count(4, 1);
            }
            for (String word : PARSING) {
                new Desk().answers(word, -16).count(4, 0);
                new Desk().answers(word + " \n  ", -16).count(4, 0);
            }
        });
        Sentence.holds("-19 if it has more than 9 characters).", () -> {
            for (String word : PARSING) {
                new Desk().answers(word + " abcdefghij", -19).count(4, 0);
                new Desk().answers(word + " 1234567890", -19).count(4, 0);
                new Desk().answers(word + " " + Desk.times(180, "x"), -19).count(4, 0);
            }
            for (String word : DEFINING) {
                new Desk().answers(word + " abcdefghi", 0).count(4, 1);
            }
            Desk.after("variable abcdefghi ' abcdefghi : a ['] abcdefghi").stack(82)
                    .cells(1, 1, 82);
            Desk.after("variable abcdefghi : a postpone abcdefghi").cells(1, 1, 82, 63);
        });
    }

    private static void words() {
        Sentence.holds("0 .. 81 are there from the beginning", () -> {
            Desk.after("' exit ' ( ' dup").stack(0, 81, 8);
            Desk.after("0 compile, 81 compile,").cells(0, 0, 81);
            Desk.meets("82", "compile,", "", -9);
            Desk.meets("-1", "compile,", "", -9);
        });
        Sentence.holds("made ones, at most 40, follow from 82 on, in order (-8 for one"
                + " more).", () -> {
            for (String word : DEFINING) {
                Desk desk = fortyWords().count(4, 40).answers(word + " x", -8);
                desk.count(4, 40).count(3, 0).count(5, 0).answers("' x", -13);
            }
            Desk desk = fortyWords().answers("' A ' B ' h 121 compile,", 0).stack(82, 83, 121);
            desk.answers("122 compile,", -9);
            // the name of the one that is refused is gone from the text
            fortyWords().answers("' create catch x 5", 0).stack(-8, 5);
            fortyWords().answers("7 ' constant catch x 5", 0).stack(7, -8, 5);
            // a word that went makes room for another one
            Desk.after("create a").answers(": b oops", -13).answers("create c ' c", 0).stack(83);
        });
        Sentence.holds("A name means the latest word of that name that is finished.", () -> {
            new Desk().answers(": a a", -13);
            new Desk().answers(": a [ a", -13);
            Desk.after(": a 1 ; : a a 2 ; a").stack(1, 2);
            Desk.after("create a 5 , create a ' a").stack(83);
            Desk.after(": dup 3 ; dup ' dup").stack(3, 82);
            Desk.after(": 7 8 ; 7 ' 7").stack(8, 82);
            new Desk().answers(": a 1 ; : a 2 oops", -13).answers("a", 0).stack(1);
            // capitals are other characters, and so is a name that goes on
            new Desk().answers(": ab ; AB", -13);
            new Desk().answers(": ab ; a", -13);
            new Desk().answers(": ab ; abc", -13);
            // the words without a name are meant by none
            new Desk().answers("' 1", -13);
        });
    }

    private static Desk fortyWords() {
        Desk desk = new Desk();
        for (int k = 0; k < 40; k += 10) {
            StringBuilder text = new StringBuilder();
            for (int j = 0; j < 10; j++) {
                text.append("create ").append((char) ('A' + k + j)).append(' ');
            }
            desk.answers(text.toString(), 0);
        }
        return desk;
    }

    private static void steps() {
        Sentence.holds("EVERY word that is carried out takes a STEP first", () -> {
            Desk.after("1 2 3").count(6, 0);
            Desk.after("1 dup").count(6, 1);
            Desk.after(": a dup dup 4").count(6, 1);
            Desk.after(": a if then ( x ) ;").count(6, 5);
            Desk.after("' cr execute").count(6, 3);
            Desk.after("' cr catch").count(6, 3);
            Desk.after(": a ; a").count(6, 4);
            Desk.after(": a 5 ; a").count(6, 5);
            Desk.after("7 constant c variable v c v").count(6, 4);
            Desk.after(": k create does> ; k x x").count(6, 8);
            Desk.after(": a 0 if then ; a").count(6, 8);
            Desk.after(": a 2 0 do loop ; a").count(6, 11);
            // the word that meets an error has taken its step
            new Desk().answers("drop", -4).count(6, 1);
            new Desk().answers("exit", -14).count(6, 1);
            // what is no word takes none
            new Desk().answers("oops", -13).count(6, 0);
            new Desk().answers(": a [ 999 , ] ; a", -9).count(6, 6);
            new Desk().answers("400 allot : a [ 82 execute", -9).count(6, 5);
        });
        Sentence.holds("when there is none left, the run ends with -28 at once", () -> {
            new Desk().answers("cr", 0, -28).wrote("").count(6, 0);
            new Desk().answers("cr cr cr", 2, -28).wrote("\n\n").count(6, 2);
            new Desk().answers("cr cr", 2, 0).wrote("\n\n").count(6, 2);
            // it is not carried out, so that it does not ask for anything
            new Desk().answers("drop", 0, -28);
            new Desk().answers("cr exit", 1, -28);
            new Desk().answers(": a 5 ; a", 2, -28).count(6, 2).word(0, 4, 1);
            new Desk().answers(": a 5 ; a", 3, -28).count(6, 3);
            new Desk().answers(": a 5 ; a", 4, -28).count(6, 4).stack();
            new Desk().answers(": a 5 ; a", 5, 0).stack(5);
            new Desk().answers("' cr execute", 2, -28).wrote("");
            // nor is it in the next run
            new Desk().answers("cr", 0, -28).answers("5", 0).stack(5).wrote("").count(6, 0);
            // the end of the run is that of every error
            new Desk().answers("1 2 >r : a if [ cr cr", 4, -28).stack().count(2, 0).count(4, 0);
            // without a step left, what takes none still goes on
            new Desk().answers("cr 5 6", 1, 0).stack(5, 6);
            new Desk().answers("' cr catch", 3, 0).stack(0);
        });
        Sentence.holds("-28 at once, which no CATCH gets.", () -> {
            new Desk().answers("' cr catch", 2, -28).count(6, 2).count(7, 0).stack();
            new Desk().answers(": t begin 0 until ; 5 ' t catch", 50, -28).count(7, 0).stack();
            new Desk().answers(": t cr ; : u ['] t catch ; ' u catch", 9, -28).count(7, 0).stack();
            new Desk().answers("' drop catch cr", 3, -28).count(7, 1).stack();
        });
    }

    private static void madeWords() {
        Sentence.holds("a COLON word: carrying it out is a call: it goes on at its place in"
                + " memory", () -> {
            Desk.after("5 allot : a 7 ; a").stack(7).word(0, 0, 5);
            Desk.after("399 allot : a ; a").stack();
            Desk.after("400 allot : a [ 1 2 82 catch").stack(1, 2, -9).count(4, 1);
            new Desk().answers("400 allot : a [ 82 execute", -9);
        });
        Sentence.holds("or a PLACE word: its place is put on the stack, and if it has a BEHAVIOUR"
                + " (a place in memory), a call of that follows", () -> {
            Desk.after("create x x").stack(0);
            Desk.after("400 allot create x x").stack(400);
            Desk.after(": k create does> 5 ; k x x").stack(5, 5).word(1, 3, 2);
            // -3 before -5; both leave it undone
            String cloaked = ": k create does> ; k x : r x recurse ; ";
            Desk.after(cloaked + "1 2 ' r catch").stack(1, 2, -3);
            Desk.after(cloaked + "1 ' r catch").stack(1, -5);
            new Desk().answers("variable v " + Desk.FULL_STACK + "v", -3);
            // without a behaviour there is no call for which the row could be full
            Desk.after("create v : a 1+ dup 30 < if recurse else v then ; 0 a")
                    .stack(30, 0);
            new Desk().answers(cloaked + ": a 1+ dup 30 < if recurse else x then ; 0 a", -5);
        });
        Sentence.holds("or a CONSTANT: the number in the cell at its place is put on the"
                + " stack.", () -> {
            Desk.after("-2147483648 constant c c").stack(Desk.LEAST);
            Desk.after("9 constant c 5 0 ! c").stack(5);
            Desk.after("399 allot 6 constant c c").stack(6);
            new Desk().answers("9 constant c " + Desk.FULL_STACK + "c", -3);
            Desk.after("9 constant c " + Desk.ALMOST_FULL_STACK + "c").count(1, 30);
        });
    }

    private static void calls() {
        Sentence.holds("A CALL goes on: the number in the cell at its place (-9 if there is no such"
                + " cell) is taken", () -> {
            for (String place : FAR) {
                Desk.meets(": a [ 2 , " + place + " , ] ; 1 2", "a", "", -9);
            }
            Desk.after(": a [ 2 , 399 , ] ; a").stack();
            // behind the last cell
            new Desk().answers("398 allot : a [ -2 allot ] ; 52 398 ! 52 399 ! a", -9)
                    .wrote("\n\n");
            // at the place of a behaviour
            Desk.after("399 allot : a [ -399 allot ] ; 7 399 ! create b a ' b catch")
                    .stack(-9);
        });
        Sentence.holds("the place is 1 more, and the word of that number (-9 if there is none; one"
                + " that is being made is one) is carried out", () -> {
            for (String number : new String[] {"-1", "83", "-2147483648", "2147483647"}) {
                Desk.meets(": a [ " + number + " , ] ; 1 2", "a", "", -9);
            }
            Desk.after(": a exit [ 82 , ] ; a").stack();
            Desk.after(": a 5 exit [ 82 execute").stack(5).count(5, 0).word(0, 4, 0);
            Desk.after(": a 0= if 5 exit then 0 recurse exit [ 1 82 execute").stack(5);
            // a number that was a word's is none any more when this one went
            new Desk().answers(": a [ 83 , ] ; : b oops", -13).answers("a", -9);
        });
        Sentence.holds("as the latest of the row of calls, until it comes back. When the row is"
                + " empty, the text goes on.", () -> {
            Desk.after(": a 1 ; : b a 2 ; b 3").stack(1, 2, 3);
            Desk.after(": a exit 1 ; a a 3").stack(3);
            // a call takes from the text what stands behind its name
            Desk.after(": a ' ; a dup 5").stack(8, 5);
        });
    }

    private static void interpreting() {
        Sentence.holds("INTERPRETING: the names of the text, one behind the other (blanks passed"
                + " over), as long as there are some.", () -> {
            new Desk().answers("", 0).stack().count(6, 0);
            new Desk().answers(" ", 0).stack();
            new Desk().answers("\n", 0).stack();
            new Desk().answers(Desk.times(100, " \n"), 0).stack();
            new Desk().answers(Desk.FULL_STACK + Desk.times(140, " "), 0).count(1, 30);
            Desk.after("\n1  \n 2 \n").stack(1, 2);
        });
        Sentence.holds("when one is COMPILING and it is not IMMEDIATE, its number is appended,"
                + " otherwise it is carried out.", () -> {
            Desk.after(": a dup").cells(0, 8).count(3, 1).stack();
            Desk.after(": b 5 ; immediate : a b").stack(5).count(3, 3);
            Desk.after(": b 5 ; : a b").stack().cells(3, 82);
            Desk.after(": b 5 ; immediate b").stack(5);
            Desk.after(": a [ 5 dup").stack(5, 5).count(3, 0);
            // the last cell, and one more
            Desk.after("399 allot : a dup").cells(399, 8).count(3, 400);
            new Desk().answers("400 allot : a dup", -8).count(3, 400).count(4, 0);
            new Desk().answers("399 allot : a dup drop", -8).count(3, 399).cells(399, 8);
        });
    }

    private static void numbersInText() {
        Sentence.holds("Else if it is a number (perhaps -, then 1 to 10 digits, in its"
                + " bounds)", () -> {
            Desk.after("0 -0 7 -7").stack(0, 0, 7, -7);
            Desk.after("2147483647 -2147483648").stack(Desk.MOST, Desk.LEAST);
            Desk.after("2147483646 -2147483647").stack(Desk.MOST - 1, Desk.LEAST + 1);
            Desk.after("0000000012 -0000000012").stack(12, -12);
            for (String none : new String[] {"2147483648", "-2147483649", "9999999999",
                "-9999999999", "4294967296", "4294967297", "00000000001", "-00000000001",
                "99999999999", "18446744073709551617", "100000000000000000000"}) {
                new Desk().answers(none, -19).stack();
            }
            for (String none : new String[] {"--5", "5-", "+5", "5a", "a5", "-a", "1-1", "1.", "1:",
                "1/", "-:", "1\u0000", "\u0660"}) {
                new Desk().answers(none, -13).stack();
            }
            // - without a digit is a word, not a number
            Desk.after("7 5 -").stack(2);
        });
        Sentence.holds("it is put on the stack, or, compiling, 1 and it are appended.", () -> {
            Desk.after(Desk.ALMOST_FULL_STACK + "7").count(1, 30);
            new Desk().answers(Desk.FULL_STACK + "7", -3).stack();
            Desk.after("398 allot : a -7").cells(398, 1, -7).count(3, 400);
            new Desk().answers("400 allot : a -7", -8).count(3, 400).count(4, 0);
            // as with a word, both numbers or none
            new Desk().answers("399 allot : a -7", -8).count(3, 399).cells(399, 0);
            // compiling asks nothing of the stack
            new Desk().answers(Desk.FULL_STACK + ": a 5 ; drop a", 0).count(1, 30);
        });
        Sentence.holds("Else -13 (-19, if it has more than 9 characters).", () -> {
            new Desk().answers("abcdefghi", -13);
            new Desk().answers("abcdefghij", -19);
            new Desk().answers(": a abcdefghi", -13).count(4, 0);
            new Desk().answers(": a abcdefghij", -19).count(4, 0);
            new Desk().answers("x", -13);
            new Desk().answers(Desk.times(200, "x"), -19);
            new Desk().answers("DUP", -13);
            // a name of nine characters that begins as that of ten does is another one
            new Desk().answers(": abcdefghi ; abcdefghij", -19);
            new Desk().answers(")", -13);
        });
    }

    private static void goingOn() {
        Sentence.holds("What the text does not end stays for the next run: one goes on compiling,"
                + " the stack and the store are as they were.", () -> {
            Desk desk = Desk.after("5 6 >r : a 1 if 2").stack(5).count(2, 1);
            desk.count(5, 1).count(8, 1).count(4, 1);
            desk.answers("", 0).stack(5).count(2, 1).count(5, 1).count(8, 1);
            desk.answers("else 3 then ; a r>", 0).stack(5, 2, 6).count(2, 0).count(5, 0);
            Desk.after(": a [ 1").stack(1).count(5, 0).answers("] ; a", 0).stack(1);
            Desk.after(": a 5").answers("( 6", 0).answers("7 ; a", 0).stack(5, 7);
            // a name does not go on in the next run
            Desk.after("1").answers("2", 0).stack(1, 2);
        });
    }
}
