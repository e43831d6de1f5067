/** Promises 20 to 25: window, want, hears, fulfilled, owes, pay. */
public final class WindowTest {
    private static final String CRIER = Streets.CRIER;

    public static void main(String[] args) {
        window();
        want();
        hears();
        blur();
        fulfilled();
        owesAndPay();
        Script.finish("WindowTest");
    }

    private static void window() {
        Script.run("promise 20: numbers, ranges, room",
            "window(0, 0) = throws.IndexOutOfBoundsException; 2 * place(0) = 1; window(0, 0) = 0; window(1, 5) = 1",
            "window(0, -1) = throws.IllegalArgumentException; window(0, 6) = throws.IllegalArgumentException",
            "window(2, 0) = throws.IndexOutOfBoundsException; window(-1, 0) = throws.IndexOutOfBoundsException",
            "window(2, 6) = throws.IndexOutOfBoundsException; 10 * window(1, 1) = 11; window(0, 0) = throws.IllegalStateException",
            "window(0, 6) = throws.IllegalArgumentException; window(2, 0) = throws.IndexOutOfBoundsException",
            "fulfilled(11) = 0; fulfilled(12) = throws.IndexOutOfBoundsException");
    }

    private static void want() {
        Script.run("promise 21: how many a window has, room",
            "place(0) = 0; want(0, 0, 1, 6, 6, 1) = throws.IndexOutOfBoundsException; 2 * window(0, 0) = 1",
            "want(0, 0, 1, 6, 6, 1) = 1; want(0, 5, 127, 20, 20, 99) = 2; want(1, 3, 64, 6, 20, 50) = 1; want(0, 0, 1, 6, 6, 1) = 3",
            "want(0, 1, 2, 7, 8, 9) = 4; want(0, 0, 1, 6, 6, 1) = throws.IllegalStateException",
            "want(0, 6, 1, 6, 6, 1) = throws.IllegalArgumentException; want(2, 0, 1, 6, 6, 1) = throws.IndexOutOfBoundsException",
            "want(1, 0, 1, 6, 6, 1) = 2");
        Script.run("promise 21: wrong inputs",
            "place(0) = 0; window(0, 0) = 0; want(0, -1, 1, 6, 6, 1) = throws.IllegalArgumentException",
            "want(0, 6, 1, 6, 6, 1) = throws.IllegalArgumentException; want(0, 0, 0, 6, 6, 1) = throws.IllegalArgumentException",
            "want(0, 0, 128, 6, 6, 1) = throws.IllegalArgumentException; want(0, 0, -1, 6, 6, 1) = throws.IllegalArgumentException",
            "want(0, 0, 1, 5, 6, 1) = throws.IllegalArgumentException; want(0, 0, 1, 21, 21, 1) = throws.IllegalArgumentException",
            "want(0, 0, 1, 7, 6, 1) = throws.IllegalArgumentException; want(0, 0, 1, 6, 21, 1) = throws.IllegalArgumentException",
            "want(0, 0, 1, 6, 6, 0) = throws.IllegalArgumentException; want(0, 0, 1, 6, 6, 100) = throws.IllegalArgumentException",
            "want(1, 6, 0, 5, 4, 0) = throws.IndexOutOfBoundsException; want(-1, 0, 1, 6, 6, 1) = throws.IndexOutOfBoundsException",
            "want(0, 0, 1, 6, 6, 1) = 1; want(0, 0, 1, 6, 6, 100) = throws.IllegalArgumentException");
        Script.run("promise 21: it holds from an hour up to another one, both included", CRIER,
            "window(0, 0) = 0; want(0, 0, 127, 8, 9, 9) = 1; pass(2) = 2; sales() = 0; pass(1) = 3; sales() = 1; pass(14) = 17",
            "setPrice(0, 10) = 8; pass(1) = 18; sales() = 1; setPrice(0, 8) = 10; pass(1) = 19; sales() = 2; pass(13) = 32",
            "setPrice(0, 10) = 8; pass(2) = 34; setPrice(0, 8) = 10; pass(11) = 45; sales() = 2");
        Script.run("promise 21: it holds on its weekdays",
            "place(0) = 0; vendor(0, 60, 8, 0) = 0; 2 * type(1) = 2; setCry(0) = 0; stock(0, 9) = 9",
            "window(0, 0) = 0; want(0, 0, 4, 6, 20, 9) = 1; pass(30) = 30; sales() = 0; pass(15) = 45; sales() = 1; sale(0, 'd') = 2",
            "pass(60) = 105; sales() = 1; pass(30) = 135; sales() = 1; pass(15) = 150; sales() = 2; sale(1, 'd') = 9",
            "want(0, 0, 65, 6, 6, 9) = 2; pass(45) = 195; sales() = 2; pass(1) = 196; sales() = 3; sale(2, 'd') = 13; pass(14) = 210",
            "pass(1) = 211; sales() = 4; sale(3, 'd') = 14; sale(3, 'h') = 6");
    }

    private static void hears() {
        Script.run("promise 22: 10 or more less twice the floor",
            "place(0) = 0; vendor(0, 20, 8, 0) = 0; type(1) = 1; type(3) = 2; setCry(0) = 0; stock(0, 9) = 9; window(0, 5) = 0",
            "window(0, 4) = 1; hears(0, 0) = true; hears(1, 0) = true; setWind(1) = 0; hears(0, 0) = false; hears(1, 0) = true",
            "setWind(2) = 1; hears(1, 0) = true; setWind(3) = 2; hears(1, 0) = false");
        Script.run("promise 22: at the place of the window", CRIER,
            "place(9) = 1; link(0, 1, 6) = 0; window(1, 0) = 0; hears(0, 0) = true; setWind(1) = 0; hears(0, 0) = true; setWind(2) = 1",
            "hears(0, 0) = false; place(0) = 2; window(2, 0) = 1; setWind(0) = 2; hears(1, 0) = false");
        Script.run("promise 22: who is silent is not heard", CRIER,
            "window(0, 0) = 0; hears(0, 0) = true; hush(0, true) = false; hears(0, 0) = false; vendor(0, 50, 8, 0) = 1",
            "stock(1, 1) = 1; hears(0, 1) = false; setCry(1) = 0; hears(0, 1) = true; vendor(0, 50, 8, 0) = 2; setCry(2) = 0; hears(0, 2) = false");
        Script.run("promise 22: wrong inputs",
            "place(0) = 0; vendor(0, 50, 8, 0) = 0; hears(0, 0) = throws.IndexOutOfBoundsException; window(0, 0) = 0; hears(0, 0) = false",
            "hears(1, 0) = throws.IndexOutOfBoundsException; hears(0, 1) = throws.IndexOutOfBoundsException",
            "hears(-1, 0) = throws.IndexOutOfBoundsException; hears(0, -1) = throws.IndexOutOfBoundsException");
    }

    private static void blur() {
        Script.run("promise 22: cries 5 apart blur each other, cries 6 apart don't", CRIER,
            "vendor(1, 50, 8, 0) = 1; stock(1, 1) = 1; window(0, 0) = 0; wipe() = 2; type(4) = 1; type(5) = 2; setCry(1) = 0",
            "apart(0, 1) = 5; hears(0, 0) = false; hears(0, 1) = false; type(0) = 3; setCry(1) = 2; apart(0, 1) = 9",
            "hears(0, 0) = true; hears(0, 1) = true; wipe() = 3; type(4) = 1; type(6) = 2; setCry(1) = 3; apart(0, 1) = 6",
            "hears(0, 0) = true; hears(0, 1) = true; setCry(0) = 2; hears(0, 0) = false; hears(0, 1) = false");
        Script.run("promise 22: a silent one does not blur", CRIER,
            "vendor(1, 50, 8, 0) = 1; setCry(1) = 0; window(0, 0) = 0; hears(0, 0) = true; stock(1, 1) = 1; hears(0, 0) = false",
            "hush(1, true) = false; hears(0, 0) = true; hears(0, 1) = false; hush(0, true) = false; hush(1, false) = true",
            "hears(0, 0) = false; hears(0, 1) = true");
        Script.run("promise 22: one that is too weak there does not blur", CRIER,
            "vendor(1, 10, 8, 0) = 1; setCry(1) = 0; stock(1, 1) = 1; window(0, 0) = 0; window(0, 1) = 1; hears(0, 0) = false",
            "hears(0, 1) = false; hears(1, 0) = true; hears(1, 1) = false; setWind(1) = 0; hears(0, 0) = true; hears(0, 1) = false");
        Script.run("promise 22: each of three is blurred by one", CRIER,
            "vendor(1, 50, 8, 0) = 1; vendor(2, 50, 8, 0) = 2; stock(1, 1) = 1; stock(2, 1) = 1; window(0, 0) = 0",
            "wipe() = 2; type(3) = 1; type(6) = 2; setCry(1) = 0; wipe() = 2; type(6) = 1; type(8) = 2; setCry(2) = 0",
            "apart(0, 1) = 5; apart(1, 2) = 5; apart(0, 2) = 10; hears(0, 0) = false; hears(0, 1) = false; hears(0, 2) = false",
            "hush(2, true) = false; hears(0, 0) = false; hears(0, 1) = false; hush(1, true) = false; hush(2, false) = true",
            "hears(0, 0) = true; hears(0, 1) = false; hears(0, 2) = true");
    }

    private static void fulfilled() {
        Script.run("promise 23: on this day, window by window", CRIER,
            "fulfilled(0) = throws.IndexOutOfBoundsException; 2 * window(0, 0) = 1; fulfilled(0) = 0; want(0, 0, 127, 6, 20, 9) = 1",
            "want(0, 0, 127, 8, 20, 9) = 2; want(0, 0, 127, 6, 20, 7) = 3; want(1, 0, 2, 6, 20, 9) = 1; fulfilled(0) = 0; pass(1) = 1",
            "fulfilled(0) = 1; fulfilled(1) = 0; pass(1) = 2; fulfilled(0) = 1; pass(1) = 3; fulfilled(0) = 2; pass(11) = 14",
            "fulfilled(0) = 2; pass(1) = 15; fulfilled(0) = 0; pass(1) = 16; fulfilled(0) = 1; fulfilled(1) = 1; sales() = 4",
            "fulfilled(2) = throws.IndexOutOfBoundsException; fulfilled(-1) = throws.IndexOutOfBoundsException");
    }

    private static void owesAndPay() {
        Script.run("promise 24: window by window, vendor by vendor", CRIER,
            "2 * window(0, 0) = 1; owes(0, 0) = 0; want(1, 0, 127, 6, 20, 9) = 1; vendor(1, 60, 5, 0) = 1; pass(1) = 1; owes(1, 0) = 8",
            "owes(0, 0) = 0; owes(1, 1) = 0; pass(15) = 16; owes(1, 0) = 16; owes(2, 0) = throws.IndexOutOfBoundsException",
            "owes(0, 2) = throws.IndexOutOfBoundsException; owes(-1, 0) = throws.IndexOutOfBoundsException",
            "owes(0, -1) = throws.IndexOutOfBoundsException");
        Script.run("promise 25: what it owes then, up to all of it", CRIER,
            "2 * window(0, 0) = 1; want(0, 0, 127, 6, 20, 9) = 1; want(1, 0, 127, 6, 20, 9) = 1; pass(1) = 1; pay(0, 0, 3) = 5",
            "owes(0, 0) = 5; owes(1, 0) = 8; isSound() = true; pay(0, 0, 6) = throws.UnsupportedOperationException; pay(0, 0, 5) = 0",
            "pay(0, 0, 1) = throws.UnsupportedOperationException; owes(1, 0) = 8; pay(1, 0, 9) = throws.UnsupportedOperationException",
            "pay(1, 0, 8) = 0; of(0, 'e') = 16; isSound() = true");
        Script.run("promise 25: wrong inputs", CRIER,
            "pay(0, 0, 1) = throws.IndexOutOfBoundsException; window(0, 0) = 0; pay(0, 1, 0) = throws.IndexOutOfBoundsException",
            "pay(1, 0, 1000) = throws.IndexOutOfBoundsException; pay(-1, 0, 1) = throws.IndexOutOfBoundsException",
            "pay(0, -1, 1) = throws.IndexOutOfBoundsException; pay(0, 0, 0) = throws.IllegalArgumentException",
            "pay(0, 0, -1) = throws.IllegalArgumentException; pay(0, 0, 1000) = throws.IllegalArgumentException",
            "pay(0, 0, 999) = throws.UnsupportedOperationException; pay(0, 0, -2147483648) = throws.IllegalArgumentException");
    }
}
