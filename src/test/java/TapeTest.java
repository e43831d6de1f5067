/** Promises 34 to 38: tape, length, wareAt, differ, nearest. */
public final class TapeTest {
    private static final String CRIER =
        "place(0) = 0; vendor(3, 60, 8, 0) = 0; type(1) = 1; type(3) = 2; setCry(0) = 0; stock(0, 99) = 99";

    public static void main(String[] args) {
        tape();
        whatIsWritten();
        fortyAtMost();
        differ();
        nearest();
        Script.finish("TapeTest");
    }

    private static void tape() {
        Script.run("promise 34: numbers, room, and wrong inputs",
            "tape(0) = throws.IndexOutOfBoundsException; 2 * place(0) = 1; tape(0) = 0; tape(1) = 1; tape(2) = throws.IndexOutOfBoundsException",
            "tape(-1) = throws.IndexOutOfBoundsException; 4 * tape(0) = 5; tape(0) = throws.IllegalStateException",
            "tape(2) = throws.IndexOutOfBoundsException; length(5) = 0; length(6) = throws.IndexOutOfBoundsException");
        Script.run("promise 34: from its beginning on", CRIER,
            "pass(2) = 2; tape(0) = 0; length(0) = 0; pass(1) = 3; tape(0) = 1; length(0) = 1; pass(2) = 5; length(0) = 3; length(1) = 2");
        Script.run("promises 35 and 36: wrong inputs", CRIER,
            "length(0) = throws.IndexOutOfBoundsException; wareAt(0, 0) = throws.IndexOutOfBoundsException; tape(0) = 0",
            "length(-1) = throws.IndexOutOfBoundsException; length(1) = throws.IndexOutOfBoundsException",
            "wareAt(0, 0) = throws.NoSuchElementException; pass(1) = 1; wareAt(0, 0) = 3; wareAt(0, 1) = throws.NoSuchElementException",
            "wareAt(0, -1) = throws.NoSuchElementException; wareAt(0, 40) = throws.NoSuchElementException",
            "wareAt(1, -1) = throws.IndexOutOfBoundsException; wareAt(-1, 0) = throws.IndexOutOfBoundsException",
            "wareAt(0, 2147483647) = throws.NoSuchElementException; wareAt(0, -2147483648) = throws.NoSuchElementException");
    }

    private static void whatIsWritten() {
        Script.run("promises 34 to 36: by the numbers of vendors, not silent, 10 or more there", CRIER,
            "2 * place(0) = 2; link(0, 1, 5) = 0; link(1, 2, 5) = 0; vendor(5, 20, 8, 1) = 1; vendor(1, 60, 8, 0) = 2",
            "setCry(1) = 0; setCry(2) = 0; stock(1, 9) = 9; stock(2, 9) = 9; tape(0) = 0; tape(1) = 1; tape(2) = 2; pass(1) = 1",
            "length(0) = 2; wareAt(0, 0) = 3; wareAt(0, 1) = 1; length(1) = 3; wareAt(1, 0) = 3; wareAt(1, 1) = 5; wareAt(1, 2) = 1",
            "length(2) = 2; hush(0, true) = false; pass(1) = 2; length(0) = 3; wareAt(0, 2) = 1; length(1) = 5; wareAt(1, 3) = 5",
            "wareAt(1, 4) = 1; wareAt(2, 2) = 1");
        Script.run("promise 34: the strength is 10, and 9",
            "place(0) = 0; place(1) = 1; link(0, 1, 4) = 0; vendor(3, 31, 8, 0) = 0; 2 * type(1) = 2; setCry(0) = 0; stock(0, 9) = 9",
            "tape(1) = 0; pass(1) = 1; length(0) = 1; setWind(1) = 0; pass(1) = 2; length(0) = 1; setWind(0) = 1; pass(1) = 3; length(0) = 1");
    }

    private static void fortyAtMost() {
        Script.run("promise 35: 40 at most", CRIER,
            "vendor(4, 60, 8, 0) = 1; vendor(5, 60, 8, 0) = 2; setCry(1) = 0; setCry(2) = 0; stock(1, 99) = 99; stock(2, 99) = 99",
            "tape(0) = 0; pass(13) = 13; length(0) = 39; wareAt(0, 38) = 5; tape(0) = 1; pass(1) = 14; length(0) = 40; wareAt(0, 39) = 3",
            "pass(1) = 15; length(0) = 40; wareAt(0, 39) = 3; wareAt(0, 40) = throws.NoSuchElementException; length(1) = 6",
            "differ(0, 1) = 34; pass(20) = 35; length(0) = 40; length(1) = 40; differ(0, 1) = 0");
    }

    private static void differ() {
        Script.run("promise 37: a ware put in, taken out, made another one",
            "place(0) = 0; place(0) = 1; vendor(1, 60, 8, 0) = 0; vendor(2, 60, 8, 0) = 1; vendor(3, 60, 8, 1) = 2; vendor(2, 60, 8, 1) = 3",
            "2 * type(1) = 2; setCry(0) = 0; setCry(1) = 0; setCry(2) = 0; setCry(3) = 0; stock(0, 9) = 9; stock(1, 9) = 9",
            "stock(2, 9) = 9; stock(3, 9) = 9; tape(0) = 0; tape(1) = 1; tape(1) = 2; differ(0, 1) = 0; pass(1) = 1; differ(0, 1) = 1",
            "differ(1, 0) = 1; differ(1, 2) = 0; differ(0, 0) = 0; hush(2, true) = false; hush(3, true) = false; pass(1) = 2",
            "differ(0, 1) = 3; differ(1, 0) = 3; hush(0, true) = false; hush(1, true) = false; hush(2, false) = true; pass(2) = 4",
            "differ(0, 1) = 3; differ(1, 0) = 3; tape(0) = 3; differ(0, 3) = 4; differ(3, 0) = 4; differ(3, 1) = 4",
            "differ(0, 4) = throws.IndexOutOfBoundsException; differ(4, 0) = throws.IndexOutOfBoundsException",
            "differ(-1, 0) = throws.IndexOutOfBoundsException; differ(0, -1) = throws.IndexOutOfBoundsException");
        Script.run("promise 37: one ware moved from the front to the end is 2",
            "place(0) = 0; place(0) = 1; vendor(1, 60, 8, 0) = 0; vendor(2, 60, 8, 0) = 1; vendor(1, 60, 8, 1) = 2; vendor(2, 60, 8, 1) = 3",
            "2 * type(1) = 2; setCry(0) = 0; setCry(1) = 0; setCry(2) = 0; setCry(3) = 0; stock(0, 9) = 9; stock(1, 9) = 9",
            "stock(2, 9) = 9; stock(3, 9) = 9; tape(0) = 0; tape(1) = 1; hush(2, true) = false; pass(2) = 2; hush(2, false) = true",
            "hush(1, true) = false; hush(3, true) = false; pass(1) = 3; length(0) = 5; length(1) = 3; differ(0, 1) = 2; differ(1, 0) = 2",
            "hush(0, true) = false; pass(2) = 5; differ(0, 1) = 2; differ(1, 0) = 2");
    }

    private static void nearest() {
        Script.run("promise 38: least, of like ones the lowest, and wrong inputs", CRIER,
            "nearest(0) = throws.IndexOutOfBoundsException; tape(0) = 0; nearest(0) = throws.NoSuchElementException",
            "nearest(1) = throws.IndexOutOfBoundsException; nearest(-1) = throws.IndexOutOfBoundsException; pass(1) = 1; tape(0) = 1",
            "nearest(0) = 1; nearest(1) = 0; pass(2) = 3; tape(0) = 2; nearest(0) = 1; nearest(1) = 0; nearest(2) = 1; tape(0) = 3",
            "nearest(2) = 3; nearest(3) = 2; nearest(1) = 0; tape(0) = 4; nearest(2) = 3; nearest(3) = 2; nearest(4) = 2",
            "nearest(5) = throws.IndexOutOfBoundsException");
        Script.run("promise 38: like ones on both sides", CRIER,
            "tape(0) = 0; pass(1) = 1; tape(0) = 1; pass(1) = 2; tape(0) = 2; nearest(1) = 0; nearest(0) = 1; nearest(2) = 1");
        Script.run("promise 38: as far as two tapes can differ",
            "place(0) = 0; place(0) = 1; vendor(1, 60, 8, 0) = 0; vendor(2, 60, 8, 1) = 1; 2 * type(1) = 2; setCry(0) = 0; setCry(1) = 0",
            "stock(0, 99) = 99; stock(1, 99) = 99; tape(0) = 0; tape(1) = 1; pass(60) = 60; length(0) = 40; length(1) = 40",
            "differ(0, 1) = 40; nearest(0) = 1; nearest(1) = 0; tape(0) = 2; differ(0, 2) = 40; differ(2, 1) = 40; nearest(2) = 0",
            "nearest(0) = 1; nearest(1) = 0");
    }
}
