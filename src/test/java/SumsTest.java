/** Promises 41 to 44: checksum, silentShare, meanPrice, isSound. */
public final class SumsTest {
    private static final String CRIER = Streets.CRIER;

    public static void main(String[] args) {
        checksum();
        silentShare();
        meanPrice();
        isSound();
        Script.finish("SumsTest");
    }

    private static void checksum() {
        Script.run("promise 41: without vendors and windows",
            "checksum() = " + Sums.fold(0, 0, 6), "place(3) = 0; checksum() = " + Sums.fold(0, 0, 6),
            "pass(1) = 1; checksum() = " + Sums.fold(0, 0, 7), "pass(15) = 16; checksum() = " + Sums.fold(0, 1, 7));
        Script.run("promise 41: stock, tiredness, fines, what was sold for, what is owed, sales, day, hour", CRIER,
            "checksum() = " + Sums.fold(99, 0, 0, 0, 0, 0, 6), "window(0, 0) = 0; checksum() = " + Sums.fold(99, 0, 0, 0, 0, 0, 0, 6),
            "want(0, 0, 127, 6, 20, 9) = 1; window(0, 0) = 1; pass(1) = 1; checksum() = " + Sums.fold(98, 3, 0, 8, 8, 0, 1, 0, 7),
            "raid(0) = 1; vendor(1, 60, 5, 0) = 1; stock(1, 7) = 7; checksum() = " + Sums.fold(98, 3, 30, 8, 7, 0, 0, 0, 8, 0, 1, 0, 7),
            "pay(0, 0, 3) = 5; checksum() = " + Sums.fold(98, 3, 30, 8, 7, 0, 0, 0, 5, 0, 1, 0, 7),
            "hush(0, true) = false; wipe() = 2; 2 * type(9) = 2; setCry(1) = 0; want(1, 1, 127, 6, 20, 9) = 1; want(0, 1, 127, 6, 20, 9) = 2",
            "pass(1) = 2; checksum() = " + Sums.fold(98, 3, 30, 8, 5, 3, 0, 10, 10, 5, 3, 0, 8));
    }

    private static void silentShare() {
        Script.run("promise 42: the share as a float",
            "silentShare() = throws.ArithmeticException; place(0) = 0; silentShare() = throws.ArithmeticException",
            "vendor(0, 50, 8, 0) = 0; silentShare() = 1.0; 2 * type(1) = 2; setCry(0) = 0; silentShare() = 1.0; stock(0, 1) = 1",
            "silentShare() = 0.0; 2 * vendor(0, 50, 8, 0) = 2; silentShare() = " + 2f / 3f,
            "hush(0, true) = false; silentShare() = 1.0; hush(0, false) = true; setCry(1) = 0; stock(1, 1) = 1; silentShare() = " + 1f / 3f);
    }

    private static void meanPrice() {
        Script.run("promise 43: the mean as a double", CRIER,
            "meanPrice() = throws.ArithmeticException; window(0, 0) = 0; want(0, 0, 127, 6, 20, 99) = 1; pass(1) = 1; meanPrice() = 8.0",
            "setPrice(0, 9) = 8; meanPrice() = 8.0; pass(15) = 16; meanPrice() = 8.5; pay(0, 0, 17) = 0; meanPrice() = 8.5",
            "pass(15) = 31; meanPrice() = " + 26.0 / 3.0);
        Script.run("promise 43: of all sales, not only the last 50",
            "place(0) = 0; vendor(0, 60, 99, 0) = 0; 2 * type(1) = 2; setCry(0) = 0; stock(0, 99) = 99; window(0, 0) = 0",
            "want(0, 0, 127, 6, 6, 99) = 1; pass(1) = 1; pay(0, 0, 99) = 0; setPrice(0, 1) = 99; pass(59) = 60; 14 * pass(60) = 900; sales() = 60",
            "meanPrice() = " + 158.0 / 60.0);
        Script.run("promise 43: without anything", "meanPrice() = throws.ArithmeticException");
    }

    private static void isSound() {
        Script.run("promise 44: a street on which much happened is sound", CRIER,
            "isSound() = true; 2 * window(0, 0) = 1; want(0, 0, 127, 6, 20, 99) = 1; want(1, 0, 127, 6, 20, 99) = 1; pass(1) = 1",
            "isSound() = true; pay(0, 0, 8) = 0; isSound() = true; setMelting(0, true) = false; 4 * pass(60) = 241; of(0, 's') = 0",
            "isSound() = true; raid(0) = 1; isSound() = true; stock(0, 99) = 99; pass(60) = 301; isSound() = true");
    }
}
