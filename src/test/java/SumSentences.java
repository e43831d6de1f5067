/** Promises 40 to 44: bestPlace, checksum, silentShare, meanPrice, isSound. */
final class SumSentences {
    /** A vendor of ware 0, loudness 20 and price 8 at the first of two places without a way. */
    private static final String APART = "2 * place(0) = 1; vendor(0, 20, 8, 0) = 0";
    private static final String WANT = ", 0, 127, 6, 20, 9)";

    /** The sum over a street with all vendors and windows is beyond a long and wraps around; worked out elsewhere. */
    private static final String WRAPPED = "-5376735430637054440";

    private SumSentences() {
    }

    static void hold() {
        voiceForTheBestPlace();
        windowsForTheBestPlace();
        wantsForTheBestPlace();
        bestPlace();
        checksum();
        silentShare();
        meanPrice();
        isSound();
    }

    private static void voiceForTheBestPlace() {
        Sentences.of("promise 40")
            .hold("Returns where it would be best for a vendor to stand now: the place from which the voice",
                "2 * place(0) = 1; link(0, 1, 8) = 0; vendor(0, 50, 8, 0) = 0; 2 * type(1) = 2; setCry(0) = 0; stock(0, 9) = 9",
                "window(1, 0) = 0; want(0" + WANT + " = 1; bestPlace(0) = 0; pass(1) = 1; of(0, 'v') = 50; bestPlace(0) = 0",
                "pass(1) = 2; of(0, 'v') = 49; bestPlace(0) = 1; vendor(0, 51, 8, 0) = 1; vendor(0, 53, 8, 1) = 2",
                "bestPlace(1) = 0; bestPlace(2) = 0; setWind(1) = 0; bestPlace(1) = 0; setWind(2) = 1; bestPlace(1) = 1",
                "bestPlace(2) = 0; setWind(0) = 2; pass(3) = 5; hour() = 11; bestPlace(1) = 1; bestPlace(2) = 0; setWind(1) = 0",
                "bestPlace(2) = 1; pass(3) = 8; hour() = 14; bestPlace(2) = 0")
            .hold("now: the place from which the voice",
                "place(9) = 0; place(0) = 1; link(0, 1, 1) = 0; vendor(0, 20, 8, 0) = 0; vendor(0, 23, 8, 0) = 1; window(1, 0) = 0",
                "want(0" + WANT + " = 1; bestPlace(0) = 0; setWind(5) = 0; bestPlace(0) = 0; setWind(6) = 5; bestPlace(0) = 1",
                "place(9) = 2; link(1, 2, 1) = 0; window(2, 0) = 1; want(1" + WANT + " = 1; setWind(0) = 6; bestPlace(0) = 2",
                "bestPlace(1) = 2; setWind(4) = 0; bestPlace(1) = 2; setWind(5) = 4; bestPlace(1) = 0")
            .hold(", were no other one heard,",
                "2 * place(0) = 1; vendor(0, 20, 8, 0) = 0; vendor(0, 60, 8, 1) = 1; 2 * type(1) = 2; setCry(0) = 0; setCry(1) = 0",
                "stock(0, 9) = 9; stock(1, 9) = 9; window(1, 0) = 0; want(0" + WANT + " = 1; hears(0, 1) = true; bestPlace(0) = 1")
            .hold("is 10 or more behind twice the floor",
                APART, "window(1, 5) = 0; want(0" + WANT + " = 1; bestPlace(0) = 1; setWind(1) = 0; bestPlace(0) = 0",
                "window(1, 4) = 1; want(1" + WANT + " = 1; bestPlace(0) = 1; setWind(2) = 1; bestPlace(0) = 1; setWind(3) = 2",
                "bestPlace(0) = 0; place(2) = 2; window(2, 4) = 2; want(2" + WANT + " = 1; setWind(0) = 3; bestPlace(0) = 1",
                "place(1) = 3; window(3, 0) = 3; window(3, 4) = 4; want(3" + WANT + " = 1; want(4" + WANT + " = 1; setWind(1) = 0",
                "bestPlace(0) = 3; setWind(2) = 1; bestPlace(0) = 1");
    }

    private static void windowsForTheBestPlace() {
        Sentences.of("promise 40")
            .hold("at most windows",
                "3 * place(0) = 2; vendor(0, 20, 8, 0) = 0; window(0, 0) = 0; 2 * window(2, 0) = 2; 2 * window(1, 0) = 4",
                "want(0" + WANT + " = 1; bestPlace(0) = 0; want(2" + WANT + " = 1; bestPlace(0) = 0; want(1" + WANT + " = 1",
                "bestPlace(0) = 2; want(3" + WANT + " = 1; bestPlace(0) = 2; want(4" + WANT + " = 1; bestPlace(0) = 1",
                "3 * want(0" + WANT + " = 4; bestPlace(0) = 1; 7 * window(0, 0) = 11; want(11" + WANT + " = 1; bestPlace(0) = 0")
            .hold("that have a want for the ware",
                APART, "vendor(5, 20, 8, 0) = 1; window(0, 0) = 0; window(1, 0) = 1; bestPlace(0) = 0",
                "want(1, 5, 127, 6, 20, 9) = 1; bestPlace(0) = 0; bestPlace(1) = 1; want(0, 0, 127, 6, 20, 9) = 1",
                "bestPlace(0) = 0; bestPlace(1) = 1; want(1, 0, 127, 6, 20, 9) = 2; bestPlace(0) = 0",
                "2 * want(1, 0, 127, 6, 20, 9) = 4; bestPlace(0) = 0; 3 * want(0, 5, 127, 6, 20, 9) = 4; bestPlace(0) = 0",
                "window(1, 0) = 2; 4 * want(2, 3, 127, 6, 20, 9) = 4; bestPlace(0) = 0; bestPlace(1) = 0; window(1, 0) = 3",
                "want(3, 0, 127, 6, 20, 9) = 1; bestPlace(0) = 1")
            .hold(", and however far.",
                "3 * place(0) = 2; link(1, 0, 4) = 0; link(1, 2, 4) = 0; vendor(0, 30, 8, 0) = 0; window(0, 0) = 0",
                "window(2, 0) = 1; want(0" + WANT + " = 1; want(1" + WANT + " = 1; bestPlace(0) = 1; setWind(1) = 0",
                "bestPlace(0) = 0; link(1, 2, 9) = 4; setWind(0) = 1; bestPlace(0) = 0; vendor(0, 60, 8, 0) = 1; setWind(5) = 0",
                "bestPlace(1) = 1; setWind(6) = 5; bestPlace(1) = 0; place(0) = 3; 3 * window(3, 0) = 4; want(4" + WANT + " = 1",
                "want(3" + WANT + " = 1; bestPlace(1) = 3");
    }

    private static void wantsForTheBestPlace() {
        Sentences.of("promise 40")
            .hold("in this hour",
                APART, "window(1, 0) = 0; want(0, 0, 2, 7, 8, 9) = 1; bestPlace(0) = 0; pass(1) = 1; bestPlace(0) = 0",
                "pass(14) = 15; bestPlace(0) = 0; pass(1) = 16; bestPlace(0) = 1; pass(1) = 17; bestPlace(0) = 1; pass(1) = 18",
                "bestPlace(0) = 0; pass(13) = 31; bestPlace(0) = 0")
            .hold("that is not fulfilled",
                "2 * place(0) = 1; vendor(0, 60, 8, 1) = 0; 2 * type(1) = 2; setCry(0) = 0; stock(0, 9) = 9; window(1, 0) = 0",
                "want(0" + WANT + " = 1; bestPlace(0) = 1; pass(1) = 1; fulfilled(0) = 1; bestPlace(0) = 0; pass(13) = 14",
                "bestPlace(0) = 0; pass(1) = 15; bestPlace(0) = 1; pass(1) = 16; bestPlace(0) = 0; want(0" + WANT + " = 2",
                "bestPlace(0) = 1; pass(1) = 17; fulfilled(0) = 2; bestPlace(0) = 0")
            .hold("and for which enough is paid",
                APART, "window(1, 0) = 0; want(0, 0, 127, 6, 20, 8) = 1; bestPlace(0) = 1; setPrice(0, 9) = 8; bestPlace(0) = 0",
                "want(0, 0, 127, 6, 20, 9) = 2; bestPlace(0) = 1; setPrice(0, 99) = 9; bestPlace(0) = 0",
                "want(0, 0, 127, 6, 20, 98) = 3; bestPlace(0) = 0; want(0, 0, 127, 6, 20, 99) = 4; bestPlace(0) = 1")
            .hold(", whatever is owed",
                "2 * place(0) = 1; vendor(0, 60, 99, 1) = 0; 2 * type(1) = 2; setCry(0) = 0; stock(0, 9) = 9; window(1, 0) = 0",
                "want(0, 0, 127, 6, 20, 99) = 1; want(0, 0, 127, 6, 20, 99) = 2; want(0, 0, 127, 6, 20, 99) = 3; pass(1) = 1",
                "owes(0, 0) = 198; fulfilled(0) = 2; bestPlace(0) = 1");
    }

    private static void bestPlace() {
        Sentences.of("promise 40")
            .hold("Returns the place, of like ones the lowest.",
                "10 * place(0) = 9; 8 * vendor(0, 20, 8, 9) = 7; bestPlace(0) = 0; bestPlace(7) = 0; window(9, 0) = 0",
                "bestPlace(7) = 0; want(0" + WANT + " = 1; bestPlace(7) = 9; window(8, 0) = 1; want(1" + WANT + " = 1",
                "bestPlace(7) = 8; window(0, 0) = 2; want(2" + WANT + " = 1; bestPlace(7) = 0; link(9, 8, 2) = 0; bestPlace(7) = 8",
                "setWind(1) = 0; bestPlace(7) = 0")
            .hold("Throws `IndexOutOfBoundsException` if there is no such vendor",
                "bestPlace(0)" + Streets.INDEX, APART,
                "bestPlace(1) | bestPlace(-1) | bestPlace(MIN) | bestPlace(MAX)" + Streets.INDEX, "7 * vendor(0, 50, 8, 0) = 7",
                "bestPlace(8)" + Streets.INDEX, "bestPlace(7) = 0; bestPlace(0) = 0");
    }

    private static void checksum() {
        Sentences.of("promise 41")
            .hold("Returns a sum over the street.",
                "checksum() = " + Sums.fold(0, 0, 6), "place(9) = 0; tape(0) = 0; type(1) = 1; setWind(3) = 0",
                "checksum() = " + Sums.fold(0, 0, 6), "vendor(0, 50, 8, 0) = 0; window(0, 0) = 0",
                "checksum() = " + Sums.fold(0, 0, 0, 0, 0, 0, 0, 6))
            .hold("Returns 7 at first, then for each vendor 31 times itself plus the stock, then the tiredness, then the fines, then what was sold for, likewise",
                Streets.TWO_CRIERS, Streets.BUYER, "setPrice(1, 7) = 8; hush(0, true) = false; pass(1) = 1; raid(0) = 2",
                "hush(0, false) = true; setMelting(0, true) = false; pass(1) = 2; pay(0, 1, 7) = 0",
                "checksum() = " + Sums.fold(98, 3, 30, 0, 97, 6, 30, 7, 0, 1, 0, 8))
            .hold("; then for each window 31 times itself plus what it owes in all",
                Streets.TWO_CRIERS, "3 * window(0, 0) = 2; 2 * want(1, 0, 127, 6, 20, 99) = 2; want(0, 0, 127, 6, 20, 8) = 1",
                "setPrice(0, 99) = 8; pass(1) = 1; hush(1, true) = false; want(1, 0, 127, 6, 20, 99) = 3; pass(1) = 2",
                "owes(1, 0) = 99; owes(1, 1) = 16; checksum() = " + Sums.fold(98, 6, 0, 99, 96, 3, 0, 24, 8, 115, 0, 4, 0, 8))
            .hold("then the fines",
                "2 * place(0) = 1; vendor(0, 60, 7, 0) = 0; vendor(0, 60, 7, 1) = 1; vendor(0, 60, 7, 0) = 2; permit(2, 0, 6, 20) = 1",
                "raid(0) = 1; 2 * raid(1) = 1; checksum() = " + Sums.fold(0, 0, 30, 0, 0, 0, 60, 0, 0, 0, 0, 0, 0, 0, 6),
                "stock(2, 5) = 5; 2 * type(1) = 2; setCry(2) = 0; setLimit(6, 59) = 99; pass(1) = 1",
                "checksum() = " + Sums.fold(0, 0, 30, 0, 0, 0, 60, 0, 5, 3, 5, 0, 0, 0, 7))
            .hold("plus what it owes in all",
                "place(0) = 0; 8 * vendor(0, 60, 7, 0) = 7; 2 * type(1) = 2; setCry(7) = 0; stock(7, 9) = 9; 12 * window(0, 0) = 11",
                "want(11, 0, 127, 6, 20, 9) = 1; pass(1) = 1; owes(11, 7) = 7; checksum() = "
                    + Sums.fold(0, 0, 0, 0, 0, 0, 0, 0, 0, 0, 0, 0, 0, 0, 0, 0, 0, 0, 0, 0, 0, 0, 0, 0, 0, 0, 0, 0, 8, 3, 0, 7,
                        0, 0, 0, 0, 0, 0, 0, 0, 0, 0, 0, 7, 1, 0, 7),
                "wipe() = 2; 2 * type(9) = 2; setCry(0) = 0; stock(0, 9) = 9; setPrice(0, 5) = 7; want(11, 0, 127, 7, 20, 9) = 2",
                "pass(1) = 2; owes(11, 7) = 7; owes(11, 0) = 5; checksum() = "
                    + Sums.fold(8, 3, 0, 5, 0, 0, 0, 0, 0, 0, 0, 0, 0, 0, 0, 0, 0, 0, 0, 0, 0, 0, 0, 0, 0, 0, 0, 0, 8, 6, 0, 7,
                        0, 0, 0, 0, 0, 0, 0, 0, 0, 0, 0, 12, 2, 0, 8))
            .hold("; then 31 times itself plus the sales, then 31 times itself plus the day, then the hour, likewise.",
                "checksum() = 208543; pass(14) = 14; checksum() = 208557; pass(1) = 15; checksum() = 208574; 74 * pass(60) = 4455",
                "pass(59) = 4514; checksum() = 217857; place(0) = 0; 8 * vendor(5, 60, 99, 0) = 7; 12 * window(0, 0) = 11",
                "10 * stock(0, 99) = 990; stock(0, 9) = 999; raid(0) = 8; checksum() = " + WRAPPED);
    }

    private static void silentShare() {
        Sentences.of("promise 42")
            .hold("Returns the share of vendors who are silent by now.",
                Streets.CRIER, "silentShare() = 0.0; vendor(0, 50, 8, 0) = 1; silentShare() = 0.5; setCry(1) = 0",
                "silentShare() = 0.5; stock(1, 1) = 1; silentShare() = 0.0; setMelting(0, true) = false; pass(1) = 1",
                "silentShare() = 0.5; hush(0, true) = false; silentShare() = 1.0")
            .hold("Returns their number divided by that of all, both converted to float.",
                Streets.CRIER, "silentShare() = 0.0; 2 * vendor(0, 50, 8, 0) = 2; silentShare() = 0.6666667; setCry(1) = 0",
                "stock(1, 1) = 1; silentShare() = 0.33333334; 3 * vendor(0, 50, 8, 0) = 5; silentShare() = 0.6666667",
                "vendor(0, 50, 8, 0) = 6; silentShare() = 0.71428573; vendor(0, 50, 8, 0) = 7; silentShare() = 0.75",
                "hush(0, true) = false; hush(1, true) = false; silentShare() = 1.0")
            .hold("Throws `ArithmeticException` if there are none",
                "silentShare()" + Streets.ARITHMETIC, "place(0) = 0; window(0, 0) = 0; silentShare()" + Streets.ARITHMETIC,
                "vendor(0, 50, 8, 0) = 0; silentShare() = 1.0");
    }

    private static void meanPrice() {
        Sentences.of("promise 43")
            .hold("Returns the mean price of sales.",
                Streets.CRIER, Streets.BUYER, "pass(1) = 1; meanPrice() = 8.0; setPrice(0, 5) = 8; meanPrice() = 8.0",
                "pass(15) = 16; meanPrice() = 6.5; pay(0, 0, 13) = 0; meanPrice() = 6.5; pass(1) = 17; meanPrice() = 6.5")
            .hold("Returns the sum of all prices divided by how many sales there were, both converted to double.",
                "place(0) = 0; vendor(0, 60, 99, 0) = 0; 2 * type(1) = 2; setCry(0) = 0; stock(0, 99) = 99; window(0, 0) = 0",
                "want(0, 0, 127, 6, 6, 99) = 1; pass(1) = 1; meanPrice() = 99.0; setPrice(0, 1) = 99; pay(0, 0, 99) = 0",
                "pass(30) = 31; sales() = 3; meanPrice() = 33.666666666666664; 12 * pass(60) = 751; sales() = 51",
                "meanPrice() = 2.9215686274509802")
            .hold("Throws `ArithmeticException` if there were none",
                "meanPrice()" + Streets.ARITHMETIC, Streets.CRIER, Streets.BUYER, "meanPrice()" + Streets.ARITHMETIC,
                "hush(0, true) = false; pass(60) = 60; meanPrice()" + Streets.ARITHMETIC, "hush(0, false) = true; pass(1) = 61",
                "meanPrice() = 8.0");
    }

    private static void isSound() {
        Sentences.of("promise 44")
            .hold("Checks the street: what was sold for is what is owed, and was paid",
                "isSound() = true", Streets.TWO_CRIERS, "isSound() = true; 12 * window(0, 0) = 11; want(0, 0, 127, 6, 20, 9) = 1",
                "want(11, 0, 127, 6, 20, 9) = 1; pass(1) = 1; isSound() = true; setPrice(1, 3) = 8; pass(15) = 16",
                "isSound() = true; pay(0, 0, 8) = 0; pay(11, 1, 1) = 2; isSound() = true; pay(11, 1, 3)" + Streets.UNSUPPORTED,
                "isSound() = true; pay(11, 1, 2) = 0; raid(0) = 2; isSound() = true; 9 * raid(0) = 2; of(0, 'f') = 300; isSound() = true")
            .hold("what was sold for is what is owed, and was paid",
                "place(0) = 0; vendor(0, 60, 99, 0) = 0; 2 * type(1) = 2; setCry(0) = 0; stock(0, 9) = 9; window(0, 0) = 0",
                "want(0, 0, 127, 6, 20, 99) = 1; pass(1) = 1; pay(0, 0, 99) = 0; isSound() = true; pass(15) = 16; pay(0, 0, 98) = 1",
                "isSound() = true; pass(15) = 31; pay(0, 0, 100) = 0; isSound() = true; of(0, 'e') = 297; pass(15) = 46",
                "isSound() = true; of(0, 'e') = 396; owes(0, 0) = 99")
            .hold("; stock is not below 0",
                "place(0) = 0; vendor(0, 60, 8, 0) = 0; vendor(0, 60, 8, 0) = 1; 2 * type(1) = 2; setCry(0) = 0; stock(0, 1) = 1",
                "setMelting(0, true) = false; window(0, 0) = 0; 4 * want(0, 0, 127, 6, 20, 9) = 4; pass(1) = 1; isSound() = true",
                "of(0, 's') = 0; of(1, 's') = 0; pass(60) = 61; isSound() = true; of(0, 's') = 0; of(1, 's') = 0")
            .hold("; and nobody is more tired than 200.",
                Streets.LOUD, "10 * stock(0, 90) = 999; 4 * pass(44) = 176; of(0, 't') = 198; isSound() = true; pass(1) = 177",
                "of(0, 't') = 200; isSound() = true; pass(1) = 178; of(0, 't') = 200; isSound() = true; pass(60) = 238",
                "isSound() = true")
            .hold("Returns whether all of this holds.",
                "isSound() = true; place(0) = 0; vendor(0, 50, 8, 0) = 0; window(0, 0) = 0; isSound() = true; pass(60) = 60",
                "isSound() = true");
    }
}
