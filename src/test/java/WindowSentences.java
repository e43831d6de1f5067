/** What the document says of windows, and promises 20 to 25. */
final class WindowSentences {
    private static final String WINDOW = "place(0) = 0; window(0, 0) = 0";

    private WindowSentences() {
    }

    static void hold() {
        windows();
        wants();
        heard();
        blurred();
        window();
        want();
        wantRefused();
        hears();
        fulfilled();
        owes();
        pay();
        payRefused();
    }

    private static void windows() {
        Sentences.of("Windows")
            .hold("At most 12 are numbered from 0",
                "place(0) = 0; window(0, 0) = 0; window(0, 0) = 1; 10 * window(0, 0) = 11; fulfilled(11) = 0",
                "window(0, 0)" + Streets.STATE, "fulfilled(12) | fulfilled(-1)" + Streets.INDEX)
            .hold("each at a place",
                "10 * place(0) = 9; link(0, 9, 5) = 0; vendor(0, 40, 8, 9) = 0; 2 * type(1) = 2; setCry(0) = 0; stock(0, 9) = 9",
                "window(9, 0) = 0; window(0, 2) = 1; window(0, 3) = 2; hears(0, 0) = true; hears(1, 0) = true; hears(2, 0) = false")
            .hold("on a floor of 0 to 5",
                "place(0) = 0; window(0, -1) | window(0, 6)" + Streets.ARGUMENT, "vendor(0, 20, 8, 0) = 0; 2 * type(1) = 2",
                "setCry(0) = 0; stock(0, 9) = 9; window(0, 0) = 0; window(0, 5) = 1; hears(0, 0) = true; hears(1, 0) = true",
                "setWind(1) = 0; hears(0, 0) = true; hears(1, 0) = false")
            .hold("with at most 4 wants",
                WINDOW, "3 * want(0, 0, 127, 6, 20, 9) = 3; want(0, 0, 127, 6, 20, 9) = 4",
                "want(0, 0, 127, 6, 20, 9)" + Streets.STATE, "window(0, 0) = 1; want(1, 0, 127, 6, 20, 9) = 1");
    }

    private static void wants() {
        Sentences.of("Windows")
            .hold("a ware",
                "place(0) = 0; vendor(5, 60, 8, 0) = 0; 2 * type(1) = 2; setCry(0) = 0; stock(0, 9) = 9; window(0, 0) = 0",
                "want(0, 4, 127, 6, 20, 9) = 1; want(0, 0, 127, 6, 20, 9) = 2; pass(1) = 1; sales() = 0",
                "want(0, 5, 127, 6, 20, 9) = 3; pass(1) = 2; sales() = 1")
            .hold("weekdays as bits",
                Streets.LOUD, "window(0, 0) = 0; want(0, 0, 65, 6, 20, 9) = 1; pass(1) = 1; sales() = 1; pass(60) = 61",
                "pass(29) = 90; sales() = 1; pass(1) = 91; sales() = 2; sale(1, 'd') = 6; pass(15) = 106; sales() = 3",
                "sale(2, 'd') = 7; pass(15) = 121; sales() = 3")
            .hold("an hour from which on and one up to which it holds, both included",
                Streets.CRIER, "window(0, 0) = 0; want(0, 0, 127, 8, 10, 9) = 1; pass(2) = 2; sales() = 0; pass(1) = 3",
                "sales() = 1; sale(0, 'h') = 8; setPrice(0, 10) = 8; pass(14) = 17; pass(2) = 19; sales() = 1; setPrice(0, 9) = 10",
                "pass(1) = 20; sales() = 2; sale(1, 'h') = 10; setPrice(0, 10) = 9; pass(15) = 35; sales() = 2",
                "setPrice(0, 9) = 10; pass(10) = 45; sales() = 2")
            .hold("from which on and one up to which it holds",
                Streets.LOUD, "3 * window(0, 0) = 2; want(0, 0, 127, 6, 6, 9) = 1; want(1, 0, 127, 20, 20, 9) = 1",
                "want(2, 0, 127, 13, 13, 9) = 1; pass(15) = 15; sales() = 3; sale(0, 'h') = 6; sale(0, 'w') = 0; sale(1, 'h') = 13",
                "sale(2, 'h') = 20; sale(2, 'w') = 1")
            .hold(", and the most that is paid.",
                Streets.CRIER, "window(0, 0) = 0; want(0, 0, 127, 6, 20, 7) = 1; pass(1) = 1; sales() = 0; setPrice(0, 7) = 8",
                "pass(1) = 2; sales() = 1");
    }

    private static void heard() {
        Sentences.of("Windows")
            .hold("A vendor who is not silent is heard at a window",
                Streets.CRIER, "window(0, 0) = 0; hears(0, 0) = true; hush(0, true) = false; hears(0, 0) = false",
                "hush(0, false) = true; hears(0, 0) = true; vendor(0, 50, 8, 0) = 1; stock(1, 9) = 9; hears(0, 1) = false",
                "vendor(0, 50, 8, 0) = 2; wipe() = 2; 2 * type(9) = 2; setCry(2) = 0; hears(0, 2) = false; setCry(1) = 0",
                "hears(0, 1) = true; stock(2, 1) = 1; hears(0, 1) = false; hears(0, 2) = false; hears(0, 0) = true")
            .hold("if the strength there less twice the floor is 10 or more",
                "place(0) = 0; place(5) = 1; link(0, 1, 1) = 0; vendor(0, 30, 8, 0) = 0; 2 * type(1) = 2; setCry(0) = 0",
                "stock(0, 9) = 9; strength(0, 1) = 20; window(1, 5) = 0; window(1, 0) = 1; window(1, 3) = 2; hears(0, 0) = true",
                "setWind(1) = 0; hears(0, 0) = false; hears(2, 0) = true; setWind(4) = 1; strength(0, 1) = 16; hears(2, 0) = true",
                "setWind(5) = 4; hears(2, 0) = false; setWind(9) = 5; strength(0, 1) = 11; hears(1, 0) = true; pass(1) = 1",
                "hears(1, 0) = true; pass(1) = 2; strength(0, 1) = 10; hears(1, 0) = true; pass(1) = 3; strength(0, 1) = 9",
                "hears(1, 0) = false");
    }

    private static void blurred() {
        Sentences.of("Windows")
            .hold("and there is no other one, not silent,",
                Streets.CRIER, "vendor(1, 50, 8, 0) = 1; setCry(1) = 0; window(0, 0) = 0; hears(0, 0) = true; stock(1, 1) = 1",
                "hears(0, 0) = false; hush(1, true) = false; hears(0, 0) = true; hush(1, false) = true; hears(0, 0) = false",
                "vendor(1, 50, 8, 0) = 2; stock(2, 1) = 1; hears(0, 0) = false; hush(1, true) = false; hears(0, 0) = true")
            .hold("with a cry alike",
                Streets.CRIER, "vendor(1, 50, 8, 0) = 1; stock(1, 9) = 9; window(0, 0) = 0; wipe() = 2; type(4) = 1; type(5) = 2",
                "setCry(1) = 0; apart(0, 1) = 5; hears(0, 0) = false; wipe() = 2; type(4) = 1; type(6) = 2; setCry(1) = 2",
                "apart(0, 1) = 6; hears(0, 0) = true; hears(0, 1) = true")
            .hold("of whom it is 10 or more, too",
                Streets.CRIER, "vendor(1, 12, 8, 0) = 1; setCry(1) = 0; stock(1, 1) = 1; window(0, 0) = 0; window(0, 1) = 1",
                "window(0, 2) = 2; hears(0, 0) = false; hears(1, 0) = false; hears(2, 0) = true; hears(2, 1) = false",
                "setWind(1) = 0; hears(1, 0) = true; hears(0, 0) = false; setWind(2) = 1; strength(1, 0) = 10; hears(0, 0) = false",
                "setWind(3) = 2; strength(1, 0) = 9; hears(0, 0) = true; hears(0, 1) = false")
            .hold(": both blur each other.",
                Streets.CRIER, "7 * vendor(1, 50, 8, 0) = 7; stock(7, 1) = 1; window(0, 0) = 0; hears(0, 0) = true; setCry(7) = 0",
                "hears(0, 0) = false; hears(0, 7) = false; stock(3, 1) = 1; wipe() = 2; type(6) = 1; type(3) = 2; setCry(3) = 0",
                "apart(0, 3) = 5; hears(0, 3) = false; setCry(7) = 2; hears(0, 0) = false; hush(7, true) = false",
                "hush(3, true) = false; hears(0, 0) = true");
    }

    private static void window() {
        Sentences.of("promise 20")
            .hold("Adds a window.",
                "place(0) = 0; fulfilled(0)" + Streets.INDEX, "window(0, 0) = 0; fulfilled(0) = 0; fulfilled(1)" + Streets.INDEX)
            .hold("- `floor`: 0 to 5",
                "place(0) = 0; vendor(0, 20, 8, 0) = 0; 2 * type(1) = 2; setCry(0) = 0; stock(0, 9) = 9; window(0, 5) = 0",
                "window(0, 0) = 1; window(0, 4) = 2; window(0, 1) = 3; hears(0, 0) = true; setWind(1) = 0; hears(0, 0) = false",
                "setWind(2) = 1; hears(2, 0) = true; setWind(3) = 2; hears(2, 0) = false; setWind(8) = 3; hears(3, 0) = true",
                "setWind(9) = 8; hears(3, 0) = false; hears(1, 0) = true")
            .hold("Returns its number.",
                "place(0) = 0; window(0, 0) = 0; window(0, 0) = 1; window(0, 0) = 2; window(0, 0) = 3; window(0, 0) = 4",
                "window(0, 0) = 5; window(0, 0) = 6; window(0, 0) = 7; window(0, 0) = 8; window(0, 0) = 9; window(0, 0) = 10",
                "window(0, 0) = 11")
            .hold("Throws `IndexOutOfBoundsException` if there is no such place",
                "window(0, 0)" + Streets.INDEX, "place(0) = 0",
                "window(1, 0) | window(-1, 0) | window(MIN, 0) | window(MAX, 0)" + Streets.INDEX, "9 * place(0) = 9",
                "window(10, 0)" + Streets.INDEX, "window(9, 0) = 0")
            .hold("Throws `IllegalArgumentException` if a number is out of range",
                "place(0) = 0; window(0, -1) | window(0, 6) | window(0, MIN) | window(0, MAX)" + Streets.ARGUMENT,
                "window(0, 0) = 0; window(0, -1) | window(0, 6)" + Streets.ARGUMENT, "window(0, 5) = 1")
            .hold("Throws `IllegalStateException` if there are 12",
                "2 * place(0) = 1; vendor(0, 19, 8, 0) = 0; 2 * type(1) = 2; setCry(0) = 0; stock(0, 9) = 9; 11 * window(0, 0) = 10",
                "window(0, 5) = 11; window(0, 0) | window(1, 0)" + Streets.STATE, "hears(10, 0) = true; hears(11, 0) = false",
                "fulfilled(12)" + Streets.INDEX)
            .hold("if there are 12",
                "2 * place(0) = 1; vendor(0, 19, 8, 0) = 0; 2 * type(1) = 2; setCry(0) = 0; stock(0, 9) = 9; 11 * window(0, 0) = 10",
                "window(1, 0) = 11; window(0, 0) | window(0, 5)" + Streets.STATE, "hears(10, 0) = true; hears(11, 0) = false");
    }

    private static void want() {
        Sentences.of("promise 21")
            .hold("Adds a want.",
                Streets.CRIER, "window(0, 0) = 0; pass(1) = 1; sales() = 0; want(0, 0, 127, 6, 20, 9) = 1; pass(1) = 2",
                "sales() = 1; want(0, 0, 127, 6, 20, 9) = 2; pass(1) = 3; sales() = 2")
            .hold("- `ware`: 0 to 5",
                "place(0) = 0; vendor(0, 60, 8, 0) = 0; vendor(5, 60, 8, 0) = 1; 2 * type(1) = 2; setCry(0) = 0; wipe() = 2",
                "2 * type(9) = 2; setCry(1) = 0; stock(0, 9) = 9; stock(1, 9) = 9; window(0, 0) = 0; want(0, 5, 127, 6, 20, 9) = 1",
                "want(0, 0, 127, 6, 20, 9) = 2; pass(1) = 1; sale(0, 'v') = 1; sale(1, 'v') = 0")
            .hold("- `weekdays`: 1 to 127, as bits",
                Streets.LOUD, "3 * window(0, 0) = 2; want(0, 0, 1, 6, 20, 9) = 1; want(1, 0, 127, 6, 20, 9) = 1",
                "want(2, 0, 64, 6, 20, 9) = 1; pass(1) = 1; sales() = 2; sale(0, 'w') = 0; sale(1, 'w') = 1; pass(15) = 16",
                "sales() = 3; sale(2, 'w') = 1; pass(60) = 76; sales() = 7; pass(15) = 91; sales() = 9; sale(7, 'w') = 1",
                "sale(8, 'w') = 2; pass(15) = 106; sales() = 11; sale(9, 'w') = 0; sale(10, 'w') = 1")
            .hold("- `from`: 6 to 20",
                Streets.LOUD, "2 * window(0, 0) = 1; want(0, 0, 127, 20, 20, 9) = 1; want(1, 0, 127, 6, 20, 9) = 1; pass(1) = 1",
                "sales() = 1; sale(0, 'w') = 1; pass(13) = 14; sales() = 1; pass(1) = 15; sales() = 2; sale(1, 'w') = 0",
                "sale(1, 'h') = 20")
            .hold("- `to`: from that hour to 20",
                Streets.LOUD, "hush(0, true) = false; 4 * window(0, 0) = 3; want(0, 0, 127, 6, 6, 9) = 1",
                "want(1, 0, 127, 6, 20, 9) = 1; want(2, 0, 127, 19, 19, 9) = 1; want(3, 0, 127, 20, 20, 9) = 1; pass(13) = 13",
                "hush(0, false) = true; pass(1) = 14; sales() = 2; sale(0, 'w') = 1; sale(1, 'w') = 2; pass(1) = 15; sales() = 3",
                "sale(2, 'w') = 3; pass(1) = 16; sales() = 5; sale(3, 'w') = 0; sale(4, 'w') = 1")
            .hold("- `most`: 1 to 99",
                "place(0) = 0; vendor(0, 60, 99, 0) = 0; 2 * type(1) = 2; setCry(0) = 0; stock(0, 9) = 9; 3 * window(0, 0) = 2",
                "want(0, 0, 127, 6, 20, 1) = 1; want(1, 0, 127, 6, 20, 98) = 1; want(2, 0, 127, 6, 20, 99) = 1; pass(1) = 1",
                "sales() = 1; sale(0, 'w') = 2; setPrice(0, 2) = 99; pass(1) = 2; sales() = 2; sale(1, 'w') = 1",
                "setPrice(0, 1) = 2; pass(1) = 3; sales() = 3; sale(2, 'w') = 0")
            .hold("Returns how many the window has.",
                WINDOW, "window(0, 0) = 1; want(0, 0, 127, 6, 20, 9) = 1; want(0, 0, 127, 6, 20, 9) = 2",
                "want(1, 0, 127, 6, 20, 9) = 1; want(0, 0, 127, 6, 20, 9) = 3; want(0, 0, 127, 6, 20, 9) = 4",
                "want(1, 0, 127, 6, 20, 9) = 2");
    }

    private static void wantRefused() {
        Sentences.of("promise 21")
            .hold("Throws `IndexOutOfBoundsException` if there is no such window",
                "place(0) = 0; want(0, 0, 127, 6, 20, 9)" + Streets.INDEX, "window(0, 0) = 0",
                "want(1, 0, 127, 6, 20, 9) | want(-1, 0, 127, 6, 20, 9) | want(MIN, 0, 127, 6, 20, 9)"
                    + " | want(MAX, 0, 127, 6, 20, 9)" + Streets.INDEX,
                "11 * window(0, 0) = 11; want(12, 0, 127, 6, 20, 9)" + Streets.INDEX, "want(11, 0, 127, 6, 20, 9) = 1",
                "want(0, 0, 127, 6, 20, 9) = 1")
            .hold("Throws `IllegalArgumentException` if a number is out of range",
                WINDOW,
                "want(0, -1, 127, 6, 20, 9) | want(0, 6, 127, 6, 20, 9) | want(0, MIN, 127, 6, 20, 9)"
                    + " | want(0, MAX, 127, 6, 20, 9)" + Streets.ARGUMENT,
                "want(0, 0, 0, 6, 20, 9) | want(0, 0, 128, 6, 20, 9) | want(0, 0, -1, 6, 20, 9) | want(0, 0, MIN, 6, 20, 9)"
                    + " | want(0, 0, MAX, 6, 20, 9)" + Streets.ARGUMENT,
                "want(0, 0, 127, 5, 20, 9) | want(0, 0, 127, 21, 21, 9) | want(0, 0, 127, 21, 20, 9)"
                    + " | want(0, 0, 127, MIN, 20, 9) | want(0, 0, 127, MAX, MAX, 9)" + Streets.ARGUMENT,
                "want(0, 0, 127, 6, 21, 9) | want(0, 0, 127, 20, 19, 9) | want(0, 0, 127, 7, 6, 9) | want(0, 0, 127, 6, 5, 9)"
                    + " | want(0, 0, 127, 5, 5, 9)" + Streets.ARGUMENT,
                "want(0, 0, 127, 6, MAX, 9) | want(0, 0, 127, 6, MIN, 9)" + Streets.ARGUMENT,
                "want(0, 0, 127, 6, 20, 0) | want(0, 0, 127, 6, 20, 100) | want(0, 0, 127, 6, 20, -1)"
                    + " | want(0, 0, 127, 6, 20, MIN) | want(0, 0, 127, 6, 20, MAX)" + Streets.ARGUMENT,
                "want(0, 0, 1, 6, 6, 1) = 1; want(0, 5, 127, 20, 20, 99) = 2")
            .hold("Throws `IllegalStateException` if it has 4",
                WINDOW, "window(0, 0) = 1; 3 * want(0, 0, 1, 6, 6, 1) = 3; want(0, 5, 127, 20, 20, 99) = 4",
                "want(0, 0, 1, 6, 6, 1) | want(0, 5, 127, 20, 20, 99)" + Streets.STATE, "4 * want(1, 0, 1, 6, 6, 1) = 4",
                "want(1, 0, 1, 6, 6, 1)" + Streets.STATE)
            .hold("if it has 4",
                Streets.LOUD, "setPrice(0, 2) = 1; window(0, 0) = 0; pass(1) = 1; 3 * want(0, 0, 127, 6, 20, 99) = 3",
                "want(0, 0, 127, 6, 20, 2) = 4",
                "want(0, 5, 127, 6, 20, 99) | want(0, 0, 1, 6, 20, 99) | want(0, 0, 127, 20, 20, 99)" + Streets.STATE,
                "want(0, 0, 127, 6, 6, 99) | want(0, 0, 127, 6, 20, 1) | want(0, 0, 127, 6, 20, 99)" + Streets.STATE,
                "pass(1) = 2; sales() = 4; want(0, 5, 1, 20, 20, 1)" + Streets.STATE, "fulfilled(0) = 4; setPrice(0, 3) = 2",
                "pass(15) = 17; sales() = 7; want(0, 0, 127, 6, 20, 3)" + Streets.STATE, "pass(1) = 18; sales() = 7");
    }

    private static void hears() {
        Sentences.of("promise 22")
            .hold("Tells whether a vendor is heard at a window by now.",
                "2 * place(0) = 1; link(0, 1, 9) = 0; vendor(0, 50, 8, 0) = 0; 2 * type(1) = 2; setCry(0) = 0; stock(0, 9) = 9",
                "goTo(0, 7, 1) = 0; window(0, 0) = 0; window(1, 0) = 1; hears(0, 0) = true; hears(1, 0) = false; pass(1) = 1",
                "hears(0, 0) = false; hears(1, 0) = true; pass(13) = 14; hears(1, 0) = true; pass(1) = 15; hears(1, 0) = false",
                "hears(0, 0) = true")
            .hold("Returns whether so.",
                "place(0) = 0; vendor(0, 10, 8, 0) = 0; 2 * type(1) = 2; setCry(0) = 0; window(0, 0) = 0; hears(0, 0) = false",
                "stock(0, 1) = 1; hears(0, 0) = true; setMelting(0, true) = false; pass(1) = 1; hears(0, 0) = false",
                "stock(0, 1) = 1; hears(0, 0) = true; setWind(1) = 0; hears(0, 0) = false")
            .hold("Throws `IndexOutOfBoundsException` if there is no such window or vendor",
                "place(0) = 0; hears(0, 0)" + Streets.INDEX, "vendor(0, 50, 8, 0) = 0; hears(0, 0)" + Streets.INDEX,
                "window(0, 0) = 0",
                "hears(1, 0) | hears(-1, 0) | hears(MIN, 0) | hears(MAX, 0) | hears(0, 1) | hears(0, -1) | hears(0, MIN)"
                    + " | hears(0, MAX)" + Streets.INDEX,
                "11 * window(0, 0) = 11; 7 * vendor(0, 50, 8, 0) = 7; hears(12, 7) | hears(11, 8)" + Streets.INDEX,
                "hears(11, 7) = false")
            .hold("if there is no such window or vendor",
                WINDOW, "hears(0, 0)" + Streets.INDEX, "vendor(0, 50, 8, 0) = 0; hears(0, 0) = false; window(0, 0) = 1",
                "hears(0, 1)" + Streets.INDEX);
    }

    private static void fulfilled() {
        Sentences.of("promise 23")
            .hold("Returns how many wants of a window were fulfilled on this day.",
                Streets.CRIER, "2 * window(0, 0) = 1; want(0, 0, 127, 20, 20, 9) = 1; want(0, 0, 127, 20, 20, 9) = 2",
                "want(1, 0, 127, 20, 20, 9) = 1; pass(14) = 14; fulfilled(0) = 0; stock(0, 1) = 100; pass(1) = 15; sales() = 3",
                "fulfilled(0) = 0; fulfilled(1) = 0; want(0, 0, 127, 6, 6, 9) = 3; pass(1) = 16; fulfilled(0) = 1",
                "fulfilled(1) = 0; pass(13) = 29; fulfilled(0) = 1; pass(1) = 30; fulfilled(0) = 0")
            .hold("Returns how many.",
                Streets.CRIER, "window(0, 0) = 0; fulfilled(0) = 0; pass(1) = 1; fulfilled(0) = 0",
                "4 * want(0, 0, 127, 6, 20, 9) = 4; fulfilled(0) = 0; pass(1) = 2; fulfilled(0) = 4; pass(12) = 14",
                "fulfilled(0) = 4; pass(1) = 15; fulfilled(0) = 0; pass(1) = 16; fulfilled(0) = 4; sales() = 8")
            .hold("Throws `IndexOutOfBoundsException` if there is no such window",
                "place(0) = 0; fulfilled(0)" + Streets.INDEX, "window(0, 0) = 0",
                "fulfilled(1) | fulfilled(-1) | fulfilled(MIN) | fulfilled(MAX)" + Streets.INDEX, "11 * window(0, 0) = 11",
                "fulfilled(12)" + Streets.INDEX, "fulfilled(11) = 0; fulfilled(0) = 0");
    }

    private static void owes() {
        Sentences.of("promise 24")
            .hold("Returns what a window owes a vendor.",
                Streets.TWO_CRIERS, Streets.BUYER, "window(0, 0) = 1; pass(1) = 1; owes(0, 0) = 8; owes(0, 1) = 0; owes(1, 0) = 0",
                "setPrice(1, 7) = 8; pass(15) = 16; owes(0, 0) = 8; owes(0, 1) = 7; pay(0, 0, 8) = 0; owes(0, 0) = 0",
                "owes(0, 1) = 7")
            .hold("Returns how much.",
                "place(0) = 0; vendor(0, 60, 99, 0) = 0; 2 * type(1) = 2; setCry(0) = 0; stock(0, 9) = 9; window(0, 0) = 0",
                "owes(0, 0) = 0; want(0, 0, 127, 6, 20, 99) = 1; pass(1) = 1; owes(0, 0) = 99; pass(15) = 16; owes(0, 0) = 198",
                "pass(15) = 31; owes(0, 0) = 198; pay(0, 0, 198) = 0; owes(0, 0) = 0")
            .hold("Throws `IndexOutOfBoundsException` if there is no such window or vendor",
                WINDOW, "owes(0, 0)" + Streets.INDEX, "vendor(0, 50, 8, 0) = 0; owes(0, 0) = 0",
                "owes(1, 0) | owes(-1, 0) | owes(MIN, 0) | owes(MAX, 0) | owes(0, 1) | owes(0, -1) | owes(0, MIN)"
                    + " | owes(0, MAX)" + Streets.INDEX,
                "11 * window(0, 0) = 11; 7 * vendor(0, 50, 8, 0) = 7; owes(12, 7) | owes(11, 8)" + Streets.INDEX, "owes(11, 7) = 0");
    }

    private static void pay() {
        Sentences.of("promise 25")
            .hold("Lets a window pay a vendor.",
                Streets.TWO_CRIERS, "2 * window(0, 0) = 1; want(0, 0, 127, 6, 20, 9) = 1; want(1, 0, 127, 6, 20, 9) = 1",
                "pass(1) = 1; setPrice(1, 7) = 8; pass(15) = 16; pay(1, 1, 3) = 4; owes(1, 1) = 4; owes(1, 0) = 8; owes(0, 1) = 7",
                "owes(0, 0) = 8; isSound() = true; of(1, 'e') = 14")
            .hold("- `sum`: 1 to 999",
                Streets.CRIER, Streets.BUYER, "pass(1) = 1; pay(0, 0, 1) = 7; pay(0, 0, 999)" + Streets.UNSUPPORTED,
                "pay(0, 0, 7) = 0")
            .hold("Returns what it owes then.",
                "place(0) = 0; vendor(0, 60, 99, 0) = 0; 2 * type(1) = 2; setCry(0) = 0; stock(0, 9) = 9; window(0, 0) = 0",
                "want(0, 0, 127, 6, 20, 99) = 1; want(0, 0, 127, 6, 20, 99) = 2; pass(1) = 1; owes(0, 0) = 198; pay(0, 0, 1) = 197",
                "pay(0, 0, 196) = 1; pay(0, 0, 1) = 0; isSound() = true");
    }

    private static void payRefused() {
        Sentences.of("promise 25")
            .hold("Throws `IndexOutOfBoundsException` if there is no such window or vendor",
                WINDOW, "pay(0, 0, 1)" + Streets.INDEX, "vendor(0, 50, 8, 0) = 0",
                "pay(1, 0, 1) | pay(-1, 0, 1) | pay(MIN, 0, 1) | pay(MAX, 0, 1) | pay(0, 1, 1) | pay(0, -1, 1)"
                    + " | pay(0, MIN, 1) | pay(0, MAX, 1)" + Streets.INDEX,
                "11 * window(0, 0) = 11; 7 * vendor(0, 50, 8, 0) = 7; pay(12, 7, 1) | pay(11, 8, 1)" + Streets.INDEX,
                "pay(11, 7, 1)" + Streets.UNSUPPORTED)
            .hold("Throws `IllegalArgumentException` if a number is out of range",
                Streets.CRIER, Streets.BUYER, "pass(1) = 1",
                "pay(0, 0, 0) | pay(0, 0, 1000) | pay(0, 0, -1) | pay(0, 0, -8) | pay(0, 0, MIN)"
                    + " | pay(0, 0, MAX)" + Streets.ARGUMENT,
                "owes(0, 0) = 8; pay(0, 0, 8) = 0; pay(0, 0, 0) | pay(0, 0, 1000) | pay(0, 0, -1)" + Streets.ARGUMENT,
                "owes(0, 0) = 0")
            .hold("Throws `UnsupportedOperationException` if it owes less",
                Streets.CRIER, Streets.BUYER, "pay(0, 0, 1)" + Streets.UNSUPPORTED, "pass(1) = 1",
                "pay(0, 0, 9) | pay(0, 0, 999)" + Streets.UNSUPPORTED, "owes(0, 0) = 8; pay(0, 0, 7) = 1",
                "pay(0, 0, 2)" + Streets.UNSUPPORTED, "pay(0, 0, 1) = 0; pay(0, 0, 1)" + Streets.UNSUPPORTED);
    }
}
