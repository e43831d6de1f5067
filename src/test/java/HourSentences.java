/** How an hour goes by, and promises 26 to 30. */
final class HourSentences {
    private static final String ALWAYS = "127, 6, 20, 99";

    private HourSentences() {
    }

    static void hold() {
        nobodyBuys();
        asItBegins();
        windowsAndWants();
        whoCanSell();
        theCheapestOne();
        tapesWriteDown();
        finesAndTiredness();
        melting();
        theNextHour();
        pass();
        hourAndDay();
        sales();
        sale();
        theLastFifty();
    }

    private static void nobodyBuys() {
        Sentences.of("Nobody buys")
            .hold("Nobody buys what was not heard",
                "place(0) = 0; vendor(0, 10, 8, 0) = 0; 2 * type(1) = 2; setCry(0) = 0; stock(0, 9) = 9", Streets.BUYER,
                "setWind(1) = 0; hears(0, 0) = false; pass(1) = 1; sales() = 0; setWind(0) = 1; hears(0, 0) = true; pass(1) = 2",
                "sales() = 1")
            .hold(", and each sale is written down with its hour.",
                Streets.LOUD, "3 * window(0, 0) = 2; want(0, 0, 127, 20, 20, 9) = 1; want(1, 0, 126, 6, 6, 9) = 1",
                "want(2, 0, 1, 6, 6, 9) = 1; pass(16) = 16; sales() = 3; sale(0, 'h') = 6; sale(0, 'd') = 0; sale(1, 'h') = 20",
                "sale(1, 'd') = 0; sale(2, 'h') = 6; sale(2, 'd') = 1");
    }

    private static void asItBegins() {
        Sentences.of("An hour")
            .hold("An hour goes by so, silent being those who are as it begins.",
                "place(0) = 0; vendor(0, 50, 8, 0) = 0; vendor(1, 19, 5, 0) = 1; 2 * type(1) = 2; setCry(0) = 0; setCry(1) = 0",
                "stock(0, 1) = 1; stock(1, 9) = 9; window(0, 5) = 0; window(0, 0) = 1; want(0, 0, " + ALWAYS + ") = 1",
                "want(1, 1, " + ALWAYS + ") = 1; tape(0) = 0; setLimit(6, 49) = 99; pass(1) = 1; sales() = 1; sale(0, 'w') = 0",
                "of(0, 's') = 0; isSilent(0) = true; length(0) = 2; wareAt(0, 0) = 0; of(0, 'f') = 5; of(0, 't') = 3",
                "setLimit(7, 0) = 99; pass(1) = 2; sales() = 2; sale(1, 'w') = 1; sale(1, 'h') = 7; length(0) = 3; of(0, 'f') = 5",
                "of(0, 't') = 3; of(1, 'f') = 5; of(1, 't') = 6")
            .hold("silent being those who are as it begins.",
                Streets.LOUD, "setMelting(0, true) = false; tape(0) = 0; pass(60) = 60; of(0, 's') = 39; pass(39) = 99",
                "of(0, 's') = 0; length(0) = 40; of(0, 't') = 117; pass(6) = 105; of(0, 't') = 87; stock(0, 2) = 2; pass(14) = 119",
                "of(0, 's') = 0; of(0, 't') = 93");
    }

    private static void windowsAndWants() {
        Sentences.of("An hour")
            .hold("First each window, by numbers",
                "place(0) = 0; vendor(0, 60, 8, 0) = 0; 2 * type(1) = 2; setCry(0) = 0; stock(0, 2) = 2; 12 * window(0, 0) = 11",
                "want(11, 0, " + ALWAYS + ") = 1; want(5, 0, " + ALWAYS + ") = 1; want(0, 0, " + ALWAYS + ") = 1; pass(1) = 1",
                "sales() = 2; sale(0, 'w') = 0; sale(1, 'w') = 5; fulfilled(11) = 0; stock(0, 1) = 1; pass(1) = 2",
                "sale(2, 'w') = 11")
            .hold("and each of its wants that holds in this hour",
                Streets.LOUD, "window(0, 0) = 0; want(0, 0, 127, 7, 8, 9) = 1; want(0, 0, 127, 7, 7, 9) = 2",
                "want(0, 0, 2, 6, 20, 9) = 3; want(0, 0, 1, 8, 20, 9) = 4; pass(1) = 1; sales() = 0; pass(1) = 2; sales() = 2",
                "pass(1) = 3; sales() = 3; pass(12) = 15; sales() = 3; pass(1) = 16; sales() = 4; pass(1) = 17; sales() = 6")
            .hold("and was not fulfilled on this day",
                Streets.LOUD, "window(0, 0) = 0; want(0, 0, 127, 6, 20, 9) = 1; pass(1) = 1; sales() = 1; pass(14) = 15",
                "sales() = 1; pass(1) = 16; sales() = 2; hush(0, true) = false; pass(28) = 44; sales() = 2; hush(0, false) = true",
                "pass(1) = 45; sales() = 3; sale(2, 'h') = 20; pass(1) = 46; sales() = 4; sale(3, 'h') = 6")
            .hold(", by their order,",
                Streets.TWO_CRIERS, "vendor(5, 60, 8, 0) = 2; wipe() = 2; 5 * type(5) = 5; setCry(2) = 0; stock(2, 1) = 1",
                "setPrice(2, 3) = 8; setPrice(1, 2) = 8; window(0, 0) = 0; window(0, 0) = 1; want(1, 0, " + ALWAYS + ") = 1",
                "want(0, 5, " + ALWAYS + ") = 1; want(0, 0, " + ALWAYS + ") = 2; want(0, 5, " + ALWAYS + ") = 3; pass(1) = 1",
                "sales() = 3; sale(0, 'v') = 2; sale(1, 'v') = 1; sale(1, 'w') = 0; sale(2, 'w') = 1; fulfilled(0) = 2",
                "stock(2, 9) = 9; pass(1) = 2; sales() = 4; fulfilled(0) = 3")
            .hold("is fulfilled, if it can be, by one of the ware",
                Streets.CRIER, "window(0, 0) = 0; want(0, 1, " + ALWAYS + ") = 1; want(0, 0, " + ALWAYS + ") = 2; pass(1) = 1",
                "sales() = 1; of(0, 's') = 98; fulfilled(0) = 1; owes(0, 0) = 8; vendor(1, 60, 5, 0) = 1; wipe() = 2",
                "2 * type(9) = 2; setCry(1) = 0; stock(1, 2) = 2; pass(1) = 2; sales() = 2; of(1, 's') = 1; of(0, 's') = 98");
    }

    private static void whoCanSell() {
        Sentences.of("An hour")
            .hold("from a vendor who is heard there",
                "place(0) = 0; vendor(0, 20, 8, 0) = 0; 2 * type(1) = 2; setCry(0) = 0; stock(0, 9) = 9; window(0, 5) = 0",
                "want(0, 0, " + ALWAYS + ") = 1; setWind(1) = 0; pass(1) = 1; sales() = 0; setWind(0) = 1; pass(1) = 2",
                "sales() = 1; vendor(1, 60, 1, 0) = 1; stock(1, 9) = 9; setCry(1) = 0; window(0, 0) = 1",
                "want(1, 0, " + ALWAYS + ") = 1; want(1, 1, " + ALWAYS + ") = 2; pass(1) = 3; sales() = 1; hush(1, true) = false",
                "pass(1) = 4; sales() = 2; hush(1, false) = true; hush(0, true) = false; pass(1) = 5; sales() = 3",
                "sale(2, 'v') = 1")
            .hold(", is no farther than 2",
                Streets.LOUD, "3 * place(0) = 3; link(0, 1, 2) = 0; link(0, 2, 3) = 0; link(2, 3, 1) = 0; window(2, 0) = 0",
                "window(1, 0) = 1; want(0, 0, " + ALWAYS + ") = 1; want(1, 0, " + ALWAYS + ") = 1; hears(0, 0) = true; pass(1) = 1",
                "sales() = 1; sale(0, 'w') = 1; link(0, 3, 1) = 0; far(0, 2) = 2; pass(1) = 2; sales() = 2; sale(1, 'w') = 0",
                "link(0, 3, 2) = 1; pass(15) = 17; sales() = 3; sale(2, 'w') = 1; goTo(0, 8, 3) = 0; pass(1) = 18; sales() = 4",
                "sale(3, 'w') = 0")
            .hold(", has some",
                "place(0) = 0; vendor(0, 60, 8, 0) = 0; 2 * type(1) = 2; setCry(0) = 0; stock(0, 1) = 1; window(0, 0) = 0",
                "want(0, 0, " + ALWAYS + ") = 1; want(0, 0, " + ALWAYS + ") = 2; pass(1) = 1; sales() = 1; of(0, 's') = 0",
                "pass(1) = 2; sales() = 1; stock(0, 1) = 1; pass(1) = 3; sales() = 2; of(0, 's') = 0; isSound() = true")
            .hold(", asks no more than is paid,",
                Streets.CRIER, "window(0, 0) = 0; want(0, 0, 127, 6, 20, 8) = 1; want(0, 0, 127, 6, 20, 7) = 2; setPrice(0, 9) = 8",
                "pass(1) = 1; sales() = 0; setPrice(0, 8) = 9; pass(1) = 2; sales() = 1; pass(1) = 3; sales() = 1",
                "setPrice(0, 7) = 8; pass(1) = 4; sales() = 2; sale(1, 'p') = 7")
            .hold("and to whom the window owes less than 100",
                "place(0) = 0; vendor(0, 60, 50, 0) = 0; 2 * type(1) = 2; setCry(0) = 0; stock(0, 9) = 9; 2 * window(0, 0) = 1",
                "want(0, 0, " + ALWAYS + ") = 1; want(0, 0, " + ALWAYS + ") = 2; want(0, 0, " + ALWAYS + ") = 3; pass(1) = 1",
                "sales() = 2; owes(0, 0) = 100; pass(1) = 2; sales() = 2; pay(0, 0, 1) = 99; pass(1) = 3; sales() = 3",
                "owes(0, 0) = 149; pass(12) = 15; pass(1) = 16; sales() = 3; want(1, 0, " + ALWAYS + ") = 1; pass(1) = 17",
                "sales() = 4; sale(3, 'w') = 1; pay(0, 0, 50) = 99; setPrice(0, 99) = 50; pass(1) = 18; owes(0, 0) = 198",
                "sales() = 5");
    }

    private static void theCheapestOne() {
        Sentences.of("An hour")
            .hold(": the cheapest one",
                Streets.TWO_CRIERS, "window(0, 0) = 0; want(0, 0, " + ALWAYS + ") = 1; setPrice(0, 99) = 8; setPrice(1, 98) = 8",
                "pass(1) = 1; sale(0, 'v') = 1; sale(0, 'p') = 98; setPrice(0, 1) = 99; setPrice(1, 2) = 98; pass(15) = 16",
                "sale(1, 'v') = 0; sale(1, 'p') = 1; setPrice(1, 1) = 2; setPrice(0, 2) = 1; hush(1, true) = false; pass(15) = 31",
                "sale(2, 'v') = 0; place(0) = 1; link(0, 1, 3) = 0; hush(1, false) = true; goTo(1, 8, 1) = 0; pass(15) = 46",
                "sale(3, 'v') = 1; want(0, 0, " + ALWAYS + ") = 2; pass(1) = 47; sale(4, 'v') = 1; want(0, 0, " + ALWAYS + ") = 3",
                "pass(1) = 48; sale(5, 'v') = 0")
            .hold(", of like ones the lowest.",
                Streets.TWO_CRIERS, "vendor(0, 60, 7, 0) = 2; stock(2, 9) = 9; wipe() = 2; 5 * type(5) = 5; setCry(2) = 0",
                "window(0, 0) = 0; want(0, 0, " + ALWAYS + ") = 1; setPrice(1, 7) = 8; pass(1) = 1; sale(0, 'v') = 1",
                "setPrice(0, 7) = 8; pass(15) = 16; sale(1, 'v') = 0; setPrice(0, 99) = 7; setPrice(1, 99) = 7",
                "setPrice(2, 99) = 7; pass(15) = 31; sale(2, 'v') = 0; sale(2, 'p') = 99")
            .hold("What it costs is owed then.",
                Streets.TWO_CRIERS, "window(0, 0) = 0; window(0, 0) = 1; want(1, 0, " + ALWAYS + ") = 1",
                "want(1, 0, " + ALWAYS + ") = 2; want(1, 0, " + ALWAYS + ") = 3; setPrice(0, 98) = 8; setPrice(1, 99) = 8",
                "pass(1) = 1; owes(1, 0) = 196; owes(1, 1) = 99; owes(0, 0) = 0; sale(0, 'p') = 98; sale(1, 'p') = 98",
                "sale(2, 'p') = 99; setPrice(0, 1) = 98; owes(1, 0) = 196; of(0, 'e') = 196; of(1, 'e') = 99; isSound() = true");
    }

    private static void tapesWriteDown() {
        Sentences.of("An hour")
            .hold("Then tapes write down.",
                "place(0) = 0; vendor(3, 10, 8, 0) = 0; 2 * type(1) = 2; setCry(0) = 0; stock(0, 3) = 3",
                "setMelting(3, true) = false; tape(0) = 0; window(0, 0) = 0; want(0, 3, " + ALWAYS + ") = 1; length(0) = 0",
                "pass(1) = 1; of(0, 's') = 1; length(0) = 1; wareAt(0, 0) = 3; pass(1) = 2; of(0, 's') = 0; length(0) = 2",
                "stock(0, 9) = 9; of(0, 't') = 6; of(0, 'v') = 9; pass(1) = 3; length(0) = 2");
    }

    private static void finesAndTiredness() {
        Sentences.of("An hour")
            .hold("Then each vendor who is not silent is fined 5 if the strength at the own place is above the limit of the hour",
                "place(1) = 0; place(0) = 1; link(0, 1, 1) = 0; vendor(0, 51, 8, 0) = 0; vendor(0, 60, 8, 1) = 1",
                "vendor(0, 60, 8, 1) = 2; 2 * type(1) = 2; setCry(0) = 0; setCry(2) = 0; stock(0, 99) = 99; stock(1, 9) = 9",
                "setLimit(6, 50) = 99; setLimit(7, 49) = 99; setLimit(8, 48) = 99; setLimit(20, 0) = 99; pass(1) = 1",
                "of(0, 'f') = 0; pass(1) = 2; of(0, 'f') = 5; pass(1) = 3; of(0, 'f') = 10; pass(11) = 14; of(0, 'f') = 10",
                "pass(1) = 15; of(0, 'f') = 15; of(1, 'f') = 0; of(2, 'f') = 0; pass(1) = 16; of(0, 'f') = 15; setWind(9) = 0",
                "setLimit(7, 38) = 49; of(0, 'v') = 47; strength(0, 0) = 37; pass(1) = 17; of(0, 'f') = 15")
            .hold("at the own place is above the limit of the hour",
                "place(9) = 0; place(0) = 1; link(0, 1, 1) = 0; vendor(0, 50, 8, 0) = 0; 2 * type(1) = 2; setCry(0) = 0",
                "stock(0, 99) = 99; goTo(0, 7, 1) = 0; setLimit(6, 41) = 99; setLimit(7, 49) = 99; pass(1) = 1; of(0, 'f') = 0",
                "pass(1) = 2; of(0, 'f') = 5; setLimit(8, 0) = 99; hush(0, true) = false; pass(1) = 3; of(0, 'f') = 5",
                "hush(0, false) = true; setLimit(9, 49) = 99; pass(1) = 4; of(0, 'f') = 5; setLimit(11, 45) = 99; pass(2) = 6",
                "of(0, 'f') = 5")
            .hold(", 99 at first,",
                Streets.LOUD, "pass(60) = 60; of(0, 'f') = 0; setLimit(6, 99) = 99; setLimit(7, 99) = 99; setLimit(8, 99) = 99",
                "setLimit(9, 99) = 99; setLimit(10, 99) = 99; setLimit(11, 99) = 99; setLimit(12, 99) = 99; setLimit(13, 99) = 99",
                "setLimit(14, 99) = 99; setLimit(15, 99) = 99; setLimit(16, 99) = 99; setLimit(17, 99) = 99; setLimit(18, 99) = 99",
                "setLimit(19, 99) = 99; setLimit(20, 99) = 99")
            .hold("and then is 3 more tired",
                Streets.CRIER, "vendor(0, 50, 8, 0) = 1; setCry(1) = 0; setLimit(6, 50) = 99; setLimit(7, 49) = 99",
                "setLimit(8, 49) = 99; pass(1) = 1; of(0, 't') = 3; of(0, 'f') = 0; of(1, 't') = 0; pass(1) = 2; of(0, 't') = 6",
                "of(0, 'f') = 5; pass(1) = 3; of(0, 't') = 9; of(0, 'f') = 5; hush(0, true) = false; pass(1) = 4; of(0, 't') = 9")
            .hold(", 200 at most.",
                Streets.LOUD, "3 * pass(50) = 150; pass(15) = 165; of(0, 't') = 165; stock(0, 99) = 198; pass(10) = 175",
                "of(0, 't') = 195; pass(1) = 176; of(0, 't') = 198; pass(1) = 177; of(0, 't') = 200; pass(1) = 178",
                "of(0, 't') = 200; isSound() = true; isSilent(0) = false; pass(1) = 179; of(0, 't') = 200; pass(1) = 180; of(0, 't') = 170",
                "pass(9) = 189; of(0, 't') = 197; pass(1) = 190; of(0, 't') = 200; pass(1) = 191; of(0, 't') = 200",
                "hush(0, true) = false; pass(3) = 194; of(0, 't') = 200; pass(1) = 195; of(0, 't') = 170");
    }

    private static void melting() {
        Sentences.of("An hour")
            .hold("Then each vendor whose ware melts, and who has some, has 1 less.",
                Streets.CRIER, "vendor(1, 50, 8, 0) = 1; vendor(1, 50, 8, 0) = 2; vendor(1, 50, 8, 0) = 3; stock(1, 2) = 2",
                "stock(2, 1) = 1; setMelting(1, true) = false; isSilent(1) = true; pass(1) = 1; of(0, 's') = 99; of(1, 's') = 1",
                "of(2, 's') = 0; of(3, 's') = 0; pass(1) = 2; of(1, 's') = 0; of(2, 's') = 0; pass(1) = 3; of(1, 's') = 0",
                "setMelting(0, true) = false; pass(20) = 23; of(0, 's') = 79; setMelting(0, false) = true; pass(1) = 24",
                "of(0, 's') = 79; isSound() = true")
            .hold("and who has some, has 1 less.",
                "place(0) = 0; vendor(0, 60, 8, 0) = 0; 2 * type(1) = 2; setCry(0) = 0; stock(0, 2) = 2",
                "setMelting(0, true) = false; window(0, 0) = 0; want(0, 0, " + ALWAYS + ") = 1; want(0, 0, " + ALWAYS + ") = 2",
                "pass(1) = 1; sales() = 2; of(0, 's') = 0; stock(0, 3) = 3; want(0, 0, " + ALWAYS + ") = 3; pass(1) = 2",
                "sales() = 3; of(0, 's') = 1; want(0, 0, " + ALWAYS + ") = 4; pass(1) = 3; sales() = 4; of(0, 's') = 0",
                "isSound() = true");
    }

    private static void theNextHour() {
        Sentences.of("An hour")
            .hold("Then the next hour comes",
                "hour() = 6; pass(1) = 1; hour() = 7; day() = 0; pass(13) = 14; hour() = 20; day() = 0; pass(1) = 15; hour() = 6",
                "day() = 1; pass(1) = 16; hour() = 7; day() = 1", Streets.LOUD, "window(0, 0) = 0; want(0, 0, 127, 8, 8, 9) = 1",
                "pass(1) = 17; sales() = 0; hour() = 8; pass(1) = 18; sales() = 1; sale(0, 'h') = 8; sale(0, 'd') = 1; hour() = 9")
            .hold("; behind the hour 20 each vendor is 30 less tired",
                Streets.TWO_CRIERS, "pass(11) = 11; hush(1, true) = false; pass(3) = 14; hour() = 20; of(0, 't') = 42",
                "of(1, 't') = 33; pass(1) = 15; of(0, 't') = 15; of(1, 't') = 3; pass(13) = 28; hour() = 19; of(0, 't') = 54",
                "of(1, 't') = 3; pass(1) = 29; of(0, 't') = 57; pass(1) = 30; of(0, 't') = 30; of(1, 't') = 0; pass(1) = 31",
                "of(0, 't') = 33")
            .hold(", 0 at least.",
                Streets.TWO_CRIERS, "pass(9) = 9; hush(0, true) = false; pass(1) = 10; hush(1, true) = false; pass(4) = 14",
                "of(0, 't') = 27; of(1, 't') = 30; pass(1) = 15; of(0, 't') = 0; of(1, 't') = 0; pass(14) = 29; of(0, 't') = 0",
                "hush(0, false) = true; of(0, 't') = 0; pass(1) = 30; of(0, 't') = 0; of(0, 'v') = 50; pass(11) = 41",
                "hush(0, true) = false; of(0, 't') = 33; pass(4) = 45; of(0, 't') = 3");
    }

    private static void pass() {
        Sentences.of("promise 26")
            .hold("Lets hours go by.",
                Streets.CRIER, "pass(1) = 1; of(0, 't') = 3; pass(2) = 3; of(0, 't') = 9; hour() = 9; pass(60) = 63; day() = 4",
                "hour() = 9; of(0, 't') = 69")
            .hold("- `hours`: 1 to 60",
                "pass(1) = 1; pass(60) = 61; pass(2) = 63; pass(59) = 122; pass(15) = 137")
            .hold("Returns 15 times the day, and the hour less 6, then.",
                "pass(1) = 1; pass(13) = 14; pass(1) = 15; pass(1) = 16; pass(14) = 30; pass(60) = 90; 73 * pass(60) = 4470",
                "pass(44) = 4514; day() = 300; hour() = 20")
            .hold("Throws `IllegalArgumentException` if a number is out of range",
                "pass(0) | pass(61) | pass(-1) | pass(MIN) | pass(MAX)" + Streets.ARGUMENT, "hour() = 6; day() = 0; pass(60) = 60",
                "pass(0) | pass(61)" + Streets.ARGUMENT, "pass(1) = 61")
            .hold("Throws `IllegalStateException` if the day would be above 300",
                "75 * pass(60) = 4500; day() = 300; hour() = 6; pass(15) | pass(16) | pass(60)" + Streets.STATE, "day() = 300",
                "hour() = 6; pass(14) = 4514; hour() = 20; pass(1) | pass(2) | pass(60)" + Streets.STATE, "day() = 300",
                "hour() = 20")
            .hold("if the day would be above 300",
                Streets.LOUD, "74 * pass(60) = 4440; window(0, 0) = 0; want(0, 0, 127, 6, 20, 9) = 1; pass(15) = 4455; sales() = 1",
                "pass(60)" + Streets.STATE, "sales() = 1; pass(59) = 4514; sales() = 5; pass(1)" + Streets.STATE, "sales() = 5");
    }

    private static void hourAndDay() {
        Sentences.of("promise 27")
            .hold("Returns the hour. Returns the hour.",
                "hour() = 6; pass(1) = 1; hour() = 7; pass(4) = 5; hour() = 11; pass(2) = 7; hour() = 13; pass(6) = 13",
                "hour() = 19; pass(1) = 14; hour() = 20; pass(1) = 15; hour() = 6; pass(60) = 75; hour() = 6",
                "pass(0) | pass(61)" + Streets.ARGUMENT, "hour() = 6; pass(29) = 104; hour() = 20");
        Sentences.of("promise 28")
            .hold("Returns the day. Returns the day.",
                "day() = 0; pass(14) = 14; day() = 0; pass(1) = 15; day() = 1; pass(14) = 29; day() = 1; pass(1) = 30; day() = 2",
                "pass(60) = 90; day() = 6; pass(15) = 105; day() = 7; 73 * pass(60) = 4485; day() = 299; pass(14) = 4499",
                "day() = 299; pass(1) = 4500; day() = 300; pass(14) = 4514; day() = 300; pass(1)" + Streets.STATE, "day() = 300");
    }

    private static void sales() {
        Sentences.of("promise 29")
            .hold("Returns how many sales there were.",
                "sales() = 0", Streets.CRIER, Streets.BUYER, "sales() = 0; pass(1) = 1; sales() = 1; pass(14) = 15; sales() = 1",
                "pay(0, 0, 8) = 0; sales() = 1; pass(1) = 16; sales() = 2")
            .hold("Returns how many.",
                Streets.LOUD, "window(0, 0) = 0; 4 * want(0, 0, 127, 6, 20, 9) = 4; 3 * pass(60) = 180; sales() = 48",
                "pass(1) = 181; sales() = 52; pass(15) = 196; sales() = 56; 3 * pass(60) = 376; sales() = 99; of(0, 's') = 0",
                "pass(60) = 436; sales() = 99");
    }

    private static void sale() {
        Sentences.of("promise 30")
            .hold("Returns something of a sale.",
                Streets.TWO_CRIERS, "3 * window(0, 0) = 2; want(2, 0, 127, 9, 20, 9) = 1; want(1, 0, 2, 20, 20, 9) = 1",
                "setPrice(1, 7) = 8; pass(4) = 4; sales() = 1; setPrice(1, 9) = 7; pass(26) = 30; sales() = 3; sale(0, 'w') = 2",
                "sale(0, 'v') = 1; sale(0, 'p') = 7; sale(0, 'd') = 0; sale(0, 'h') = 9; sale(1, 'w') = 2; sale(1, 'v') = 0",
                "sale(1, 'p') = 8; sale(1, 'd') = 1; sale(1, 'h') = 9; sale(2, 'w') = 1; sale(2, 'h') = 20")
            .hold("- `sale`: the sale, from 0",
                Streets.LOUD, "2 * window(0, 0) = 1; want(0, 0, 127, 6, 20, 9) = 1; want(1, 0, 127, 6, 20, 9) = 1; pass(1) = 1",
                "sale(0, 'w') = 0; sale(1, 'w') = 1; sale(2, 'w') | sale(-1, 'w')" + Streets.NONE)
            .hold("- `what`: 'w' the window, 'v' the vendor, 'p' the price, 'd' the day, 'h' the hour",
                "place(0) = 0; 8 * vendor(0, 60, 99, 0) = 7; 2 * type(1) = 2; setCry(7) = 0; stock(7, 9) = 9",
                "12 * window(0, 0) = 11; want(11, 0, 64, 20, 20, 99) = 1; pass(60) = 60; pass(45) = 105; sales() = 1",
                "sale(0, 'w') = 11; sale(0, 'v') = 7; sale(0, 'p') = 99; sale(0, 'd') = 6; sale(0, 'h') = 20")
            .hold("Returns the number.",
                Streets.LOUD, Streets.BUYER, "pass(1) = 1; sale(0, 'w') = 0; sale(0, 'v') = 0; sale(0, 'p') = 1; sale(0, 'd') = 0",
                "sale(0, 'h') = 6")
            .hold("Throws `IllegalArgumentException` if there is no such thing",
                Streets.CRIER, Streets.BUYER, "pass(1) = 1",
                "sale(0, 's') | sale(0, 'u') | sale(0, 'x') | sale(0, 'o') | sale(0, 'q') | sale(0, 'c') | sale(0, 'e')"
                    + " | sale(0, 'g') | sale(0, 'i') | sale(0, 'a')" + Streets.ARGUMENT,
                "sale(0, 'W') | sale(0, 'V') | sale(0, 'P') | sale(0, 'D') | sale(0, 'H') | sale(0, ' ') | sale(0, 0)"
                    + " | sale(0, 65535) | sale(0, 375)" + Streets.ARGUMENT,
                "sale(0, 'w') = 0");
    }

    private static void theLastFifty() {
        Sentences.of("promise 30")
            .hold("Throws `NoSuchElementException` if there is no such sale",
                "sale(0, 'w') | sale(1, 'v') | sale(-1, 'p')" + Streets.NONE, Streets.CRIER, Streets.BUYER,
                "sale(0, 'd')" + Streets.NONE, "pass(1) = 1; sale(0, 'w') = 0",
                "sale(1, 'w') | sale(-1, 'w') | sale(50, 'h') | sale(-50, 'v') | sale(MIN, 'p') | sale(MAX, 'd')" + Streets.NONE)
            .hold(", or it is not among the last 50",
                Streets.LOUD, "window(0, 0) = 0; want(0, 0, 127, 6, 6, 9) = 1; 12 * pass(60) = 720; pass(16) = 736; sales() = 50",
                "sale(0, 'd') = 0; sale(1, 'd') = 1; sale(49, 'd') = 49; sale(50, 'd')" + Streets.NONE, "pass(15) = 751",
                "sales() = 51; sale(0, 'd') | sale(51, 'd')" + Streets.NONE, "sale(1, 'd') = 1; sale(49, 'd') = 49",
                "sale(50, 'd') = 50; pass(15) = 766; sale(1, 'd') | sale(0, 'w') | sale(52, 'h')" + Streets.NONE,
                "sale(2, 'd') = 2; sale(51, 'd') = 51; 11 * pass(60) = 1426; pass(45) = 1471; sales() = 99; stock(0, 9) = 9",
                "pay(0, 0, 99) = 0; pass(30) = 1501; sales() = 101; sale(50, 'd') | sale(49, 'd') | sale(101, 'd')" + Streets.NONE,
                "sale(51, 'd') = 51; sale(100, 'd') = 100; sale(98, 'h') = 6");
    }
}
