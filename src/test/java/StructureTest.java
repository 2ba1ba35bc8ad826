/** Promise 3: the words 69 .. 78, ifs and loops. */
public final class StructureTest {
    private static final String[] ALL = {"if", "else", "then", "begin", "until", "while", "repeat",
        "do", "loop", "+loop"};

    public static void main(String[] args) {
        ifs();
        begins();
        loops();
        unpaired();
        room();
        Desk.end();
    }

    private static void ifs() {
        Desk.after(": a if 1 then 2 ; 0 a 5 a").stack(2, 1, 2).cells(0, 3, 4, 1, 1, 1, 2, 0);
        Desk.after(": a if 1 else 2 then ; 0 a -1 a").stack(2, 1)
                .cells(0, 3, 6, 1, 1, 2, 8, 1, 2, 0);
        Desk.after(": a if if 1 else 2 then else 3 then ; 5 0 a 1 1 a").stack(5, 3, 1);
        Desk.after(": a if").count(8, 1).cells(0, 3, 0).answers("else", 0).count(8, 1)
                .cells(0, 3, 4, 2, 0).answers("then", 0).count(8, 0).cells(0, 3, 4, 2, 4);
    }

    private static void begins() {
        Desk.after(": a begin 1+ dup 4 = until ; 0 a").stack(4).cells(5, 3, 0, 0);
        Desk.after(": a begin dup while 1- repeat 7 ; 3 a").stack(0, 7)
                .cells(0, 8, 3, 6, 42, 2, 0, 1, 7, 0);
        Desk.after(": a begin").count(8, 1).answers("while", 0).count(8, 2).answers("repeat", 0)
                .count(8, 0);
    }

    private static void loops() {
        Desk.after(": a 3 0 do i loop ; a").stack(0, 1, 2).count(2, 0)
                .cells(0, 1, 3, 1, 0, 4, 20, 5, 5, 0);
        Desk.after(": a 10 0 do i 4 +loop ; a").stack(0, 4, 8).cells(6, 1, 4, 6, 5, 0);
        Desk.after(": a 10 0 do 4 +loop 7 ; a").stack(7);
        Desk.after(": a 0 3 do i -1 +loop ; a").stack(3, 2, 1, 0);
        Desk.after(": a -1 0 do i -1 +loop ; a").stack(0, -1).count(2, 0);
        Desk.after(": a 2 0 do 2 0 do j i loop loop ; a").stack(0, 0, 0, 1, 1, 0, 1, 1);
        Desk.after(": a 9 0 do i dup 2 = if unloop exit then loop ; a").stack(0, 1, 2).count(2, 0);
        Desk.after(": a 2147483647 2147483646 do i loop ; a").stack(2147483646);
        Desk.after(": a -2147483648 2147483647 do i loop ; a").stack(2147483647);
        Desk.after(": a 5 0 do i 2147483647 +loop ; a").stack(0);
        // index - limit goes round: from 0 to limit least it is below 0, one more stays so
        new Desk().answers(": a -2147483648 0 do i drop loop ; a", -28);
        Desk.after(": a 5 5 do i dup 7 = if drop unloop exit then loop ; a").stack(5, 6);
        Desk.after(": a 0 0 do i 1 +loop ; 0").stack(0);
        Desk.after(": a 3 0 do 1 >r r> drop loop ; a").stack().count(2, 0);
        new Desk().answers(": a 3 0 do r> loop ; a", -6).count(2, 0);
        new Desk().answers(": a 3 0 do r> r> loop ; a", -6);
        new Desk().answers(": a do ; 5", -22);
        new Desk().answers(": a 3 0 do 5 >r r> +loop ; a", 0).count(2, 0);
        new Desk().answers(": a 3 0 do +loop ; a", -4);
    }

    private static void unpaired() {
        for (String name : ALL) {
            new Desk().answers(name, -14);
        }
        mayClose("", "if begin do");
        mayClose("if", "if begin do else then");
        mayClose("begin", "if begin do until while");
        mayClose("begin while", "if begin do repeat");
        mayClose("do", "if begin do loop +loop");
        for (String open : new String[] {"if", "begin", "begin while", "do"}) {
            new Desk().answers(": a " + open + " ;", -22).count(8, 0).count(4, 0).count(3, 0);
        }
        String twelve = ": a " + Desk.times(12, "begin ");
        Desk.after(twelve).count(8, 12);
        for (String name : new String[] {"if", "begin", "while", "do"}) {
            new Desk().answers(twelve + name, -22).count(8, 0);
        }
        Desk.after(": a " + Desk.times(11, "begin ") + "while").count(8, 12);
        Desk.after(": a " + Desk.times(12, "if ") + "else").count(8, 12);
        // an error that a CATCH gets leaves the open things
        Desk.after(": t ['] then catch ; immediate : a begin t").stack(-22).count(8, 1).count(5, 1);
    }

    private static void mayClose(String open, String allowed) {
        for (String name : ALL) {
            boolean fits = (" " + allowed + " ").contains(" " + name + " ");
            new Desk().answers(": a " + open + " " + name, fits ? 0 : -22);
        }
    }

    private static void room() {
        for (String name : new String[] {"if", "until", "while", "loop", "+loop", "else", "repeat"}) {
            String open = name.equals("until") || name.equals("while") ? "begin"
                    : name.equals("else") ? "if" : name.equals("repeat") ? "begin while"
                    : name.endsWith("loop") ? "do" : "";
            Desk desk = Desk.after(": t ['] " + name + " catch ; immediate : a " + open);
            int opened = desk.forge.count(8);
            desk.answers("[ 399 here - allot ] t", 0).stack(-8).count(3, 399).count(8, opened);
            desk.cells(399, 0).answers("[ drop -1 allot ] t", 0).stack(0).count(3, 400);
        }
        new Desk().answers("400 allot : a do", -8);
        Desk.after("399 allot : a do").cells(399, 4).count(8, 1);
        Desk.after("400 allot : a begin").count(8, 1);
        Desk.after("398 allot : a if then").cells(398, 3, 400);
        // -22 is asked before -8
        new Desk().answers("400 allot : a then", -22);
        new Desk().answers("400 allot : a if", -8);
    }
}
