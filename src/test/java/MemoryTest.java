/** Promise 3: the words 44 .. 52, cells and what is written. */
public final class MemoryTest {
    public static void main(String[] args) {
        cells();
        here();
        writing();
        Desk.end();
    }

    private static void cells() {
        Desk.after("7 399 ! 399 @").stack(7);
        Desk.after("7 3 ! 5 3 +! -1 3 +!").stack().cells(3, 11);
        Desk.after("2147483647 0 ! 1 0 +!").cells(0, Integer.MIN_VALUE);
        for (String address : new String[] {"-1", "400", "-2147483648", "2147483647"}) {
            new Desk().answers(address + " @", -9);
            new Desk().answers("5 " + address + " !", -9);
            new Desk().answers("5 " + address + " +!", -9);
        }
        Desk.after("5 400 ' ! catch").stack(5, 400, -9);
    }

    private static void here() {
        Desk.after("here 8 , 9 , here").stack(0, 2).cells(0, 8, 9, 0);
        Desk.after("400 allot here").stack(400).answers("1 ,", -8).count(3, 400);
        Desk.after("399 allot 5 ,").count(3, 400).cells(399, 5);
        Desk.after("10 allot -10 allot here").stack(0);
        new Desk().answers("401 allot", -8).count(3, 0);
        new Desk().answers("-1 allot", -8).count(3, 0);
        new Desk().answers("400 allot 2147483647 allot", -8).count(3, 400);
        Desk.after("400 allot 5 ' , catch").stack(5, -8);
        Desk.after("401 ' allot catch").stack(401, -8);
        // an error that ends a run leaves HERE alone when no word is being made
        new Desk().answers("3 allot variable x oops", -13).count(3, 4).count(4, 1);
    }

    private static void writing() {
        Desk.after("0 . -7 . 10 . 100 .").wrote("0 -7 10 100 ");
        Desk.after("2147483647 . -2147483648 .").wrote("2147483647 -2147483648 ");
        Desk.after("1000000000 . 999999999 .").wrote("1000000000 999999999 ");
        Desk.after("65 emit 193 emit -63 emit 0 emit 128 emit -1 emit")
                .wrote("AAA\u0000\u0000\u007f");
        Desk.after("1 . cr 2 .").wrote("1 \n2 ");
        // what no longer has a place is written all the same, without an error
        Desk.after(": a 300 0 do cr loop ; a 1 . cr").count(0, 300).stack();
    }
}
