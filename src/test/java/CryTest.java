/** Promises 6, 7, 9, 10 and 39: type, wipe, setCry, apart, freeCry. */
public final class CryTest {
    private static final String ONE_VENDOR = "place(0) = 0; vendor(0, 60, 1, 0) = 0; stock(0, 9) = 9";

    public static void main(String[] args) {
        typeAndWipe();
        setCry();
        apart();
        freeCry();
        freeCryAmongMany();
        Script.finish("CryTest");
    }

    private static void typeAndWipe() {
        Script.run("promise 6: how many are typed, ranges, room",
            "type(0) = 1; type(9) = 2; type(-1) = throws.IllegalArgumentException; type(10) = throws.IllegalArgumentException",
            "type(4) = 3; 5 * type(1) = 8; type(1) = throws.IllegalStateException; type(10) = throws.IllegalArgumentException",
            "wipe() = 8; type(3) = 1");
        Script.run("promise 7: how many there were",
            "wipe() = 0; type(1) = 1; type(2) = 2; wipe() = 2; wipe() = 0; type(5) = 1; wipe() = 1");
        Script.run("promise 7: what was wiped is no part of the next cry",
            "place(0) = 0; 2 * vendor(0, 50, 1, 0) = 1; type(9) = 1; type(9) = 2; type(9) = 3; wipe() = 3; type(1) = 1",
            "type(2) = 2; setCry(0) = 0; wipe() = 2; type(1) = 1; type(2) = 2; type(9) = 3; setCry(1) = 0; apart(0, 1) = 4");
    }

    private static void setCry() {
        Script.run("promise 9: tones before, and it stays typed",
            "place(0) = 0; 2 * vendor(0, 50, 1, 0) = 1; type(1) = 1; type(3) = 2; setCry(0) = 0; setCry(0) = 2",
            "type(4) = 3; setCry(0) = 2; setCry(1) = 0; apart(0, 1) = 0; type(5) = 4; setCry(1) = 3; apart(0, 1) = 4",
            "wipe() = 4; apart(0, 1) = 4; 8 * type(2) = 8; setCry(0) = 3; setCry(0) = 8");
        Script.run("promise 9: wrong inputs",
            "place(0) = 0; setCry(0) = throws.IndexOutOfBoundsException; vendor(0, 50, 1, 0) = 0",
            "setCry(-1) = throws.IndexOutOfBoundsException; setCry(1) = throws.IndexOutOfBoundsException",
            "setCry(0) = throws.UnsupportedOperationException; type(1) = 1; setCry(0) = throws.UnsupportedOperationException",
            "setCry(1) = throws.IndexOutOfBoundsException; apart(0, 0) = throws.NoSuchElementException; type(1) = 2; setCry(0) = 0",
            "wipe() = 2; type(7) = 1; setCry(0) = throws.UnsupportedOperationException; apart(0, 0) = 0");
    }

    private static void apart() {
        Script.run("promise 10: amounts one by one, and 4 for each tone more",
            "place(0) = 0; 4 * vendor(0, 50, 1, 0) = 3; type(9) = 1; type(0) = 2; setCry(0) = 0; wipe() = 2",
            "type(0) = 1; type(9) = 2; setCry(1) = 0; wipe() = 2; type(8) = 1; type(2) = 2; type(5) = 3; setCry(2) = 0",
            "apart(0, 1) = 18; apart(1, 0) = 18; apart(0, 2) = 7; apart(2, 0) = 7; apart(1, 2) = 19; apart(2, 2) = 0",
            "wipe() = 3; 8 * type(9) = 8; setCry(3) = 0; apart(0, 3) = 33; apart(3, 0) = 33; apart(3, 2) = 32");
        Script.run("promise 10: wrong inputs",
            "place(0) = 0; 2 * vendor(0, 50, 1, 0) = 1; apart(0, 0) = throws.NoSuchElementException",
            "apart(0, 2) = throws.IndexOutOfBoundsException; apart(2, 0) = throws.IndexOutOfBoundsException",
            "apart(-1, 0) = throws.IndexOutOfBoundsException; apart(0, -1) = throws.IndexOutOfBoundsException",
            "2 * type(1) = 2; setCry(1) = 0; apart(0, 1) = throws.NoSuchElementException",
            "apart(1, 0) = throws.NoSuchElementException; apart(1, 1) = 0");
    }

    private static void freeCry() {
        Script.run("promise 39: without vendors, and wrong inputs",
            "freeCry(0) = throws.IndexOutOfBoundsException; place(0) = 0; freeCry(0) = 0",
            "freeCry(-1) = throws.IndexOutOfBoundsException; freeCry(1) = throws.IndexOutOfBoundsException");
        Script.run("promise 39: the first one that is 6 or more apart", ONE_VENDOR,
            "4 * type(0) = 4; setCry(0) = 0; freeCry(0) = 24; wipe() = 4; type(0) = 1; type(0) = 2; type(4) = 3; type(4) = 4",
            "setCry(0) = 4; freeCry(0) = 0; wipe() = 4; type(0) = 1; type(0) = 2; type(3) = 3; type(2) = 4; setCry(0) = 4",
            "freeCry(0) = 100; wipe() = 4; 4 * type(4) = 4; setCry(0) = 4; freeCry(0) = 0");
        Script.run("promise 39: cries of more and of fewer tones", ONE_VENDOR,
            "5 * type(0) = 5; setCry(0) = 0; freeCry(0) = 2; type(0) = 6; setCry(0) = 5; freeCry(0) = 0; wipe() = 6",
            "3 * type(0) = 3; setCry(0) = 6; freeCry(0) = 20; wipe() = 3; 2 * type(0) = 2; setCry(0) = 3; freeCry(0) = 0");
        Script.run("promise 39: who is heard: not silent, and 10 or more on the ground", ONE_VENDOR,
            "4 * type(0) = 4; freeCry(0) = 0; setCry(0) = 0; freeCry(0) = 24; hush(0, true) = false; freeCry(0) = 0",
            "hush(0, false) = true; place(0) = 1; freeCry(1) = 0; link(0, 1, 9) = 0; freeCry(1) = 24; setWind(5) = 0",
            "freeCry(1) = 24; setWind(6) = 5; freeCry(1) = 0; freeCry(0) = 24");
        Script.run("promise 39: a vendor without stock is not heard",
            "place(0) = 0; vendor(0, 60, 1, 0) = 0; 4 * type(0) = 4; setCry(0) = 0; freeCry(0) = 0; stock(0, 1) = 1; freeCry(0) = 24");
        Script.run("promise 39: those who blur each other count, too", ONE_VENDOR,
            "vendor(0, 60, 1, 0) = 1; stock(1, 1) = 1; 4 * type(0) = 4; setCry(0) = 0; setCry(1) = 0; freeCry(0) = 24");
        Script.run("promise 39: places of the hour of now", ONE_VENDOR,
            "2 * place(0) = 2; link(0, 1, 9) = 0; link(1, 2, 9) = 0; goTo(0, 7, 1) = 0; 4 * type(0) = 4; setCry(0) = 0",
            "freeCry(0) = 24; freeCry(2) = 0; pass(1) = 1; freeCry(2) = 24; setWind(9) = 0; freeCry(0) = 0; freeCry(1) = 24");
    }

    /** These seven cries leave none of the 625 free; without the one or the other some are. */
    private static void freeCryAmongMany() {
        Script.run("promise 39: none is free",
            "place(0) = 0; 7 * vendor(0, 60, 1, 0) = 6; stock(0, 1) = 1; stock(1, 1) = 1; stock(2, 1) = 1; stock(3, 1) = 1",
            "stock(4, 1) = 1; stock(5, 1) = 1; stock(6, 1) = 1; 4 * type(2) = 4; setCry(0) = 0; wipe() = 4",
            "type(0) = 1; type(0) = 2; type(2) = 3; type(2) = 4; setCry(1) = 0; wipe() = 4",
            "type(0) = 1; type(4) = 2; type(2) = 3; type(2) = 4; setCry(2) = 0; wipe() = 4",
            "type(4) = 1; type(0) = 2; type(2) = 3; type(2) = 4; setCry(3) = 0; wipe() = 4",
            "type(4) = 1; type(4) = 2; type(2) = 3; type(2) = 4; setCry(4) = 0; wipe() = 4",
            "type(2) = 1; type(2) = 2; type(0) = 3; type(2) = 4; setCry(5) = 0; wipe() = 4",
            "type(2) = 1; type(2) = 2; type(4) = 3; type(2) = 4; setCry(6) = 0",
            "freeCry(0) = throws.NoSuchElementException; hush(1, true) = false; freeCry(0) = 0; hush(1, false) = true",
            "hush(4, true) = false; freeCry(0) = 3410; freeCry(1) = throws.IndexOutOfBoundsException");
        Script.run("promise 39: only the last one is free",
            "place(0) = 0; 8 * vendor(0, 60, 1, 0) = 7",
            "stock(0, 1) = 1; wipe() = 0; type(0) = 1; type(2) = 2; type(3) = 3; type(3) = 4; setCry(0) = 0",
            "stock(1, 1) = 1; wipe() = 4; type(2) = 1; type(2) = 2; type(1) = 3; type(1) = 4; setCry(1) = 0",
            "stock(2, 1) = 1; wipe() = 4; type(1) = 1; type(0) = 2; type(4) = 3; type(0) = 4; setCry(2) = 0",
            "stock(3, 1) = 1; wipe() = 4; type(1) = 1; type(4) = 2; type(0) = 3; type(2) = 4; setCry(3) = 0",
            "stock(4, 1) = 1; wipe() = 4; type(4) = 1; type(0) = 2; type(1) = 3; type(4) = 4; setCry(4) = 0",
            "stock(5, 1) = 1; wipe() = 4; type(1) = 1; type(0) = 2; type(2) = 3; type(1) = 4; setCry(5) = 0",
            "stock(6, 1) = 1; wipe() = 4; type(3) = 1; type(1) = 2; type(3) = 3; type(3) = 4; setCry(6) = 0",
            "stock(7, 1) = 1; wipe() = 4; type(2) = 1; type(3) = 2; type(4) = 3; type(0) = 4; setCry(7) = 0",
            "freeCry(0) = 4444; wipe() = 4; 4 * type(4) = 4; setCry(0) = 4; freeCry(0) = 104");
    }
}
