/** What the document says of vendors, and promises 8 and 11 to 19. */
final class VendorSentences {
    private static final String VENDOR = "place(0) = 0; vendor(0, 50, 8, 0) = 0";

    private VendorSentences() {
    }

    static void hold() {
        vendors();
        placesForHours();
        howFarInAnHour();
        linksAsTheyAre();
        silence();
        voice();
        strengthOfAVoice();
        vendor();
        goTo();
        goToRefused();
        at();
        setPrice();
        stock();
        hush();
        setMelting();
        isSilent();
        of();
        strength();
    }

    private static void vendors() {
        Sentences.of("Vendors")
            .hold("At most 8 are numbered from 0",
                "place(0) = 0; vendor(0, 10, 1, 0) = 0; vendor(1, 10, 1, 0) = 1; 6 * vendor(2, 10, 1, 0) = 7; of(0, 'w') = 0",
                "of(1, 'w') = 1; of(7, 'w') = 2; vendor(0, 10, 1, 0)" + Streets.STATE, "of(8, 'w') | of(-1, 'w')" + Streets.INDEX)
            .hold("each of a ware, 0 to 5",
                "place(0) = 0; vendor(-1, 10, 1, 0) | vendor(6, 10, 1, 0)" + Streets.ARGUMENT, "vendor(0, 10, 1, 0) = 0",
                "vendor(5, 10, 1, 0) = 1; of(0, 'w') = 0; of(1, 'w') = 5")
            .hold("with a loudness of 10 to 60",
                "place(0) = 0; vendor(0, 9, 1, 0) | vendor(0, 61, 1, 0)" + Streets.ARGUMENT, "vendor(0, 10, 1, 0) = 0",
                "vendor(0, 60, 1, 0) = 1; strength(0, 0) = 10; strength(1, 0) = 60")
            .hold("a price of 1 to 99",
                "place(0) = 0; vendor(0, 10, 0, 0) | vendor(0, 10, 100, 0)" + Streets.ARGUMENT, "vendor(0, 10, 1, 0) = 0",
                "vendor(0, 10, 99, 0) = 1; setPrice(0, 99) = 1; setPrice(1, 1) = 99",
                "setPrice(0, 0) | setPrice(0, 100)" + Streets.ARGUMENT, "setPrice(0, 1) = 99")
            .hold("and a place for each hour, which is that told first till another one is told for an hour",
                "3 * place(0) = 2; link(2, 1, 1) = 0; vendor(0, 50, 8, 2) = 0; at(0, 6) = 2; at(0, 7) = 2; at(0, 19) = 2",
                "at(0, 20) = 2; goTo(0, 20, 1) = 2; at(0, 6) = 2; at(0, 19) = 2; at(0, 20) = 1");
    }

    private static void placesForHours() {
        Sentences.of("Vendors")
            .hold("from which on it holds up to the next hour that is told.",
                Streets.ROW, "goTo(0, 10, 1) = 0; at(0, 9) = 0; at(0, 10) = 1; at(0, 20) = 1; goTo(0, 12, 2) = 1; at(0, 11) = 1",
                "at(0, 12) = 2; at(0, 20) = 2; goTo(0, 10, 0) = 1; at(0, 9) = 0; at(0, 10) = 0; at(0, 11) = 0; at(0, 12) = 2",
                "goTo(0, 11, 1) = 0; at(0, 10) = 0; at(0, 11) = 1; at(0, 12) = 2; goTo(0, 8, 1) = 0; at(0, 7) = 0; at(0, 8) = 1",
                "at(0, 9) = 1; at(0, 10) = 0; goTo(0, 6, 2) = 0; at(0, 6) = 2; at(0, 7) = 2; at(0, 8) = 1; goTo(0, 20, 0) = 2",
                "at(0, 19) = 2; at(0, 20) = 0; goTo(0, 12, 1) = 2; at(0, 19) = 1; at(0, 20) = 0")
            .hold("till another one is told for an hour, from which on it holds up to the next hour that is told.",
                Streets.ROW, "goTo(0, 15, 0) = 0; goTo(0, 14, 1) = 0; at(0, 13) = 0; at(0, 14) = 1; at(0, 15) = 0; at(0, 20) = 0",
                "goTo(0, 7, 2) = 0; at(0, 6) = 0; at(0, 7) = 2; at(0, 13) = 2; at(0, 14) = 1")
            .hold("up to the next hour that is told.",
                "3 * place(0) = 2; link(0, 1, 9) = 0; link(1, 2, 9) = 0; vendor(0, 50, 8, 0) = 0; goTo(0, 10, 1) = 0",
                "goTo(0, 11, 2) = 1; goTo(0, 8, 0) = 0; at(0, 8) = 0; at(0, 9) = 0; at(0, 10) = 1; at(0, 11) = 2",
                "goTo(0, 10, 0)" + Streets.UNSUPPORTED, "goTo(0, 12, 1) = 2; goTo(0, 13, 0) = 1; goTo(0, 9, 1) = 0; at(0, 8) = 0",
                "at(0, 9) = 1; at(0, 10) = 1; goTo(0, 11, 0) = 2; at(0, 11) = 0; at(0, 12) = 1");
    }

    private static void howFarInAnHour() {
        Sentences.of("Vendors")
            .hold("From an hour to the next one",
                Streets.ROW, "link(1, 2, 7) = 6; far(0, 2) = 13",
                "goTo(0, 7, 2) | goTo(0, 13, 2) | goTo(0, 20, 2)" + Streets.UNSUPPORTED, "at(0, 7) = 0; at(0, 20) = 0",
                "goTo(0, 10, 1) = 0; goTo(0, 6, 2) = 0; at(0, 6) = 2; at(0, 9) = 2; goTo(0, 10, 0)" + Streets.UNSUPPORTED,
                "at(0, 10) = 1; goTo(0, 6, 0) = 2; goTo(0, 10, 0) = 1",
                "goTo(0, 6, 2) | goTo(0, 9, 2) | goTo(0, 11, 2)" + Streets.UNSUPPORTED, "at(0, 9) = 0; at(0, 11) = 0")
            .hold("of a day",
                "3 * place(0) = 2; link(0, 1, 9) = 0; link(1, 2, 9) = 0; vendor(0, 50, 8, 0) = 0; far(0, 2) = 18",
                "goTo(0, 20, 2)" + Streets.UNSUPPORTED, "goTo(0, 19, 1) = 0; goTo(0, 20, 2) = 1; at(0, 6) = 0; at(0, 20) = 2",
                "pass(14) = 14; strength(0, 2) = 50; strength(0, 0) = 0; pass(1) = 15; strength(0, 0) = 50; strength(0, 2) = 0")
            .hold("a vendor comes no farther than 12",
                Streets.ROW, "far(0, 2) = 12; goTo(0, 7, 2) = 0; goTo(0, 8, 0) = 2; goTo(0, 19, 2) = 0; goTo(0, 20, 0) = 2",
                "at(0, 7) = 2; at(0, 18) = 0; at(0, 19) = 2; vendor(0, 50, 8, 0) = 1; link(1, 2, 7) = 6",
                "goTo(1, 7, 2) | goTo(1, 20, 2)" + Streets.UNSUPPORTED, "link(1, 2, 6) = 7; goTo(1, 20, 2) = 0")
            .hold("and only to where there is a way",
                "3 * place(0) = 2; link(1, 2, 1) = 0; vendor(0, 50, 8, 0) = 0",
                "goTo(0, 7, 1) | goTo(0, 20, 2)" + Streets.UNSUPPORTED, "at(0, 7) = 0; goTo(0, 6, 1) = 0; at(0, 6) = 1",
                "at(0, 20) = 1; goTo(0, 7, 2) = 1; goTo(0, 8, 0) | goTo(0, 6, 0)" + Streets.UNSUPPORTED, "at(0, 6) = 1",
                "link(0, 1, 9) = 0; goTo(0, 6, 0) = 1; at(0, 6) = 0; at(0, 7) = 2");
    }

    private static void linksAsTheyAre() {
        Sentences.of("Vendors")
            .hold(", by links as they are when a place is told for an hour,",
                Streets.ROW, "goTo(0, 7, 2) = 0; link(1, 2, 9) = 6; at(0, 7) = 2; pass(1) = 1; strength(0, 2) = 50",
                "strength(0, 0) = 0; link(0, 2, 9) = 0; goTo(0, 8, 0) = 2; vendor(0, 50, 8, 1) = 1; link(1, 2, 4) = 9",
                "goTo(1, 7, 2) = 1; link(1, 2, 9) = 4; goTo(1, 8, 0) = 2")
            .hold("at which all hours are looked at.",
                Streets.ROW, "goTo(0, 7, 2) = 0; link(1, 2, 7) = 6",
                "goTo(0, 20, 2) | goTo(0, 13, 2) | goTo(0, 6, 0) | goTo(0, 7, 2)" + Streets.UNSUPPORTED, "at(0, 7) = 2",
                "goTo(0, 6, 1) = 0; goTo(0, 20, 2) = 2; vendor(0, 50, 8, 0) = 1; link(1, 2, 6) = 7; goTo(1, 20, 2) = 0",
                "link(1, 2, 7) = 6; goTo(1, 6, 0) | goTo(1, 7, 0) | goTo(1, 19, 0)" + Streets.UNSUPPORTED, "at(1, 19) = 0",
                "goTo(1, 19, 1) = 0; at(1, 18) = 0; at(1, 20) = 2");
    }

    private static void silence() {
        Sentences.of("Vendors")
            .hold("A vendor is silent without a cry",
                "place(0) = 0; vendor(0, 50, 8, 0) = 0; stock(0, 9) = 9; isSilent(0) = true; 2 * type(1) = 2; isSilent(0) = true",
                "setCry(0) = 0; isSilent(0) = false")
            .hold(", without stock",
                "place(0) = 0; vendor(0, 50, 8, 0) = 0; 2 * type(1) = 2; setCry(0) = 0; isSilent(0) = true; stock(0, 1) = 1",
                "isSilent(0) = false; setMelting(0, true) = false; pass(1) = 1; of(0, 's') = 0; isSilent(0) = true",
                "stock(0, 1) = 1; isSilent(0) = false")
            .hold(", or told to be hushed.",
                Streets.CRIER, "isSilent(0) = false; hush(0, true) = false; isSilent(0) = true; stock(0, 9) = 108",
                "isSilent(0) = true; hush(0, false) = true; isSilent(0) = false");
    }

    private static void voice() {
        Sentences.of("Vendors")
            .hold("A vendor's voice is the loudness less a quarter of how tired the vendor is, cut",
                Streets.CRIER, "of(0, 'v') = 50; pass(1) = 1; of(0, 't') = 3; of(0, 'v') = 50; strength(0, 0) = 50; pass(1) = 2",
                "of(0, 't') = 6; of(0, 'v') = 49; pass(1) = 3; of(0, 't') = 9; of(0, 'v') = 48; strength(0, 0) = 48; pass(1) = 4",
                "of(0, 't') = 12; of(0, 'v') = 47; pass(1) = 5; of(0, 't') = 15; of(0, 'v') = 47; pass(1) = 6; of(0, 't') = 18",
                "of(0, 'v') = 46; pass(8) = 14; of(0, 't') = 42; of(0, 'v') = 40")
            .hold(", also below 0.",
                "place(0) = 0; vendor(0, 10, 8, 0) = 0; 2 * type(1) = 2; setCry(0) = 0; stock(0, 99) = 99; pass(23) = 23",
                "of(0, 't') = 39; of(0, 'v') = 1; strength(0, 0) = 1; pass(1) = 24; of(0, 't') = 42; of(0, 'v') = 0",
                "strength(0, 0) = 0; pass(1) = 25; of(0, 't') = 45; of(0, 'v') = -1; strength(0, 0) = 0; pass(1) = 26",
                "of(0, 't') = 48; of(0, 'v') = -2; 3 * pass(50) = 176; pass(1) = 177; of(0, 't') = 200; of(0, 'v') = -40",
                "strength(0, 0) = 0");
    }

    private static void strengthOfAVoice() {
        Sentences.of("Vendors")
            .hold("The strength of a voice at a place is that voice less 5 times how far the vendor is",
                "3 * place(0) = 2; link(0, 1, 1) = 0; link(1, 2, 9) = 0; vendor(0, 60, 8, 0) = 0; strength(0, 0) = 60",
                "strength(0, 1) = 55; strength(0, 2) = 10; link(1, 2, 8) = 9; strength(0, 2) = 15")
            .hold("the wind",
                VENDOR, "setWind(1) = 0; strength(0, 0) = 49; setWind(9) = 1; strength(0, 0) = 41; place(0) = 1; link(0, 1, 1) = 0",
                "strength(0, 1) = 36")
            .hold("the noise there",
                "place(0) = 0; place(9) = 1; place(1) = 2; link(0, 1, 1) = 0; link(1, 2, 1) = 0; vendor(0, 50, 8, 1) = 0",
                "strength(0, 1) = 41; strength(0, 0) = 45; strength(0, 2) = 44")
            .hold("and 3 more from 11 to 13",
                VENDOR, "pass(4) = 4; hour() = 10; strength(0, 0) = 50; pass(1) = 5; hour() = 11; strength(0, 0) = 47; pass(1) = 6",
                "strength(0, 0) = 47; pass(1) = 7; hour() = 13; strength(0, 0) = 47; pass(1) = 8; hour() = 14; strength(0, 0) = 50",
                "pass(11) = 19; strength(0, 0) = 50; pass(1) = 20; strength(0, 0) = 47")
            .hold(", 0 at least,",
                "place(0) = 0; place(1) = 1; place(2) = 2; setWind(9) = 0; vendor(0, 10, 8, 0) = 0; vendor(0, 10, 8, 1) = 1",
                "vendor(0, 10, 8, 2) = 2; strength(0, 0) = 1; strength(1, 1) = 0; strength(2, 2) = 0; setWind(8) = 9",
                "strength(1, 1) = 1; strength(2, 2) = 0; setWind(7) = 8; strength(2, 2) = 1")
            .hold("and 0 without a way.",
                "3 * place(0) = 2; link(1, 2, 1) = 0; vendor(0, 60, 8, 0) = 0; strength(0, 1) = 0; strength(0, 2) = 0",
                "strength(0, 0) = 60; link(0, 1, 9) = 0; strength(0, 1) = 15; strength(0, 2) = 10");
    }

    private static void vendor() {
        Sentences.of("promise 8")
            .hold("Adds a vendor",
                "place(0) = 0; of(0, 'w')" + Streets.INDEX, "vendor(3, 50, 8, 0) = 0; of(0, 'w') = 3; of(0, 'v') = 50",
                "of(1, 'w')" + Streets.INDEX)
            .hold(", without stock and cry.",
                VENDOR, "of(0, 's') = 0; apart(0, 0)" + Streets.NONE, "of(0, 't') = 0; of(0, 'f') = 0; of(0, 'e') = 0",
                "isSilent(0) = true; stock(0, 1) = 1; isSilent(0) = true; 2 * type(0) = 2; vendor(0, 50, 8, 0) = 1",
                "apart(1, 1)" + Streets.NONE, "hush(1, false) = false; of(1, 's') = 0")
            .hold("- `ware`: 0 to 5",
                "place(0) = 0; vendor(5, 50, 8, 0) = 0; vendor(0, 50, 8, 0) = 1; vendor(4, 50, 8, 0) = 2; vendor(1, 50, 8, 0) = 3",
                "of(0, 'w') = 5; of(1, 'w') = 0; of(2, 'w') = 4; of(3, 'w') = 1")
            .hold("- `loudness`: 10 to 60",
                "place(0) = 0; vendor(5, 60, 8, 0) = 0; vendor(0, 10, 8, 0) = 1; vendor(4, 59, 8, 0) = 2; vendor(1, 11, 8, 0) = 3",
                "of(0, 'v') = 60; of(1, 'v') = 10; of(2, 'v') = 59; of(3, 'v') = 11")
            .hold("- `price`: 1 to 99",
                "place(0) = 0; vendor(5, 60, 99, 0) = 0; vendor(0, 10, 1, 0) = 1; vendor(4, 59, 98, 0) = 2",
                "vendor(1, 11, 2, 0) = 3; setPrice(0, 5) = 99; setPrice(1, 5) = 1; setPrice(2, 5) = 98; setPrice(3, 5) = 2")
            .hold("- `place`: the place told first",
                "10 * place(0) = 9; vendor(0, 50, 8, 9) = 0; vendor(0, 50, 8, 0) = 1; at(0, 6) = 9; at(0, 20) = 9; at(1, 6) = 0",
                "at(1, 20) = 0")
            .hold("Returns the number.",
                "place(0) = 0; vendor(0, 10, 1, 0) = 0; vendor(0, 10, 1, 0) = 1; vendor(0, 10, 1, 0) = 2; vendor(0, 10, 1, 0) = 3",
                "vendor(0, 10, 1, 0) = 4; vendor(0, 10, 1, 0) = 5; vendor(0, 10, 1, 0) = 6; vendor(0, 10, 1, 0) = 7")
            .hold("Throws `IndexOutOfBoundsException` if there is no such place",
                "vendor(0, 10, 1, 0)" + Streets.INDEX, "place(0) = 0",
                "vendor(0, 10, 1, -1) | vendor(0, 10, 1, 1) | vendor(0, 10, 1, MIN) | vendor(0, 10, 1, MAX)" + Streets.INDEX,
                "vendor(0, 10, 1, 0) = 0; 9 * place(0) = 9; vendor(0, 10, 1, 10)" + Streets.INDEX, "vendor(0, 10, 1, 9) = 1")
            .hold("Throws `IllegalArgumentException` if a number is out of range",
                "place(0) = 0",
                "vendor(-1, 10, 1, 0) | vendor(6, 10, 1, 0) | vendor(MIN, 10, 1, 0) | vendor(MAX, 10, 1, 0)" + Streets.ARGUMENT,
                "vendor(0, 9, 1, 0) | vendor(0, 61, 1, 0) | vendor(0, MIN, 1, 0) | vendor(0, MAX, 1, 0)" + Streets.ARGUMENT,
                "vendor(0, 10, 0, 0) | vendor(0, 10, 100, 0) | vendor(0, 10, MIN, 0) | vendor(0, 10, MAX, 0)"
                    + " | vendor(0, 10, -1, 0)" + Streets.ARGUMENT,
                "vendor(5, 60, 99, 0) = 0; vendor(0, 10, 1, 0) = 1")
            .hold("Throws `IllegalStateException` if there are 8",
                "place(0) = 0; 7 * vendor(0, 10, 1, 0) = 6; vendor(5, 60, 99, 0) = 7",
                "vendor(0, 10, 1, 0) | vendor(5, 60, 99, 0)" + Streets.STATE, "of(8, 's')" + Streets.INDEX, "of(7, 'w') = 5");
    }

    private static void goTo() {
        Sentences.of("promise 11")
            .hold("Tells a place for an hour, and those behind it.",
                Streets.ROW, "vendor(0, 50, 8, 0) = 1; goTo(0, 13, 1) = 0; at(0, 12) = 0; at(0, 13) = 1; at(0, 14) = 1",
                "at(0, 20) = 1; at(1, 13) = 0; at(1, 20) = 0; goTo(0, 6, 2) = 0; at(0, 6) = 2; at(0, 12) = 2; at(0, 13) = 1")
            .hold("- `hour`: 6 to 20",
                Streets.ROW, "goTo(0, 20, 1) = 0; at(0, 19) = 0; at(0, 20) = 1; goTo(0, 6, 2) = 0; at(0, 6) = 2; at(0, 19) = 2",
                "at(0, 20) = 1; goTo(0, 7, 1) = 2; at(0, 6) = 2; goTo(0, 19, 0) = 1; at(0, 18) = 1; at(0, 19) = 0; at(0, 20) = 1")
            .hold("Returns the place that held for that hour.",
                Streets.ROW, "goTo(0, 10, 1) = 0; goTo(0, 11, 2) = 1; goTo(0, 10, 0) = 1; goTo(0, 20, 0) = 2; goTo(0, 20, 1) = 0",
                "goTo(0, 6, 1) = 0; goTo(0, 6, 1) = 1; goTo(0, 9, 0) = 1; goTo(0, 9, 0) = 0");
    }

    private static void goToRefused() {
        Sentences.of("promise 11")
            .hold("Throws `IndexOutOfBoundsException` if there is no such vendor or place",
                "place(0) = 0; goTo(0, 6, 0)" + Streets.INDEX, "vendor(0, 50, 8, 0) = 0",
                "goTo(1, 6, 0) | goTo(-1, 6, 0) | goTo(MIN, 6, 0) | goTo(MAX, 6, 0)" + Streets.INDEX,
                "goTo(0, 6, 1) | goTo(0, 6, -1) | goTo(0, 6, MIN) | goTo(0, 6, MAX)" + Streets.INDEX, "goTo(0, 6, 0) = 0",
                "9 * place(0) = 9; 7 * vendor(0, 50, 8, 9) = 7; goTo(8, 6, 0) | goTo(0, 6, 10)" + Streets.INDEX,
                "goTo(7, 6, 0) = 9; goTo(6, 6, 9) = 9")
            .hold("Throws `IllegalArgumentException` if a number is out of range",
                Streets.ROW,
                "goTo(0, 5, 1) | goTo(0, 21, 1) | goTo(0, 0, 0) | goTo(0, -1, 0) | goTo(0, MIN, 0)"
                    + " | goTo(0, MAX, 0)" + Streets.ARGUMENT,
                "goTo(0, 6, 1) = 0; goTo(0, 20, 0) = 1; goTo(0, 5, 1) | goTo(0, 21, 1)" + Streets.ARGUMENT, "at(0, 6) = 1",
                "at(0, 20) = 0")
            .hold("Throws `UnsupportedOperationException` if the vendor could not come from an hour to the next one of a day by that",
                Streets.ROW, "link(1, 2, 7) = 6; goTo(0, 7, 2) | goTo(0, 20, 2)" + Streets.UNSUPPORTED, "goTo(0, 6, 2) = 0",
                "at(0, 20) = 2; goTo(0, 7, 0)" + Streets.UNSUPPORTED, "goTo(0, 7, 1) = 2; goTo(0, 8, 0) = 1",
                "goTo(0, 7, 0) | goTo(0, 7, 2)" + Streets.UNSUPPORTED, "at(0, 7) = 1");
    }

    private static void at() {
        Sentences.of("promise 12")
            .hold("Returns where a vendor is at an hour.",
                Streets.ROW, "goTo(0, 10, 1) = 0; at(0, 9) = 0; at(0, 10) = 1; pass(4) = 4; at(0, 9) = 0; at(0, 10) = 1",
                "at(0, 6) = 0")
            .hold("- `hour`: 6 to 20",
                Streets.ROW, "goTo(0, 7, 1) = 0; goTo(0, 20, 2) = 1; at(0, 6) = 0; at(0, 7) = 1; at(0, 19) = 1; at(0, 20) = 2")
            .hold("Returns the place.",
                "10 * place(0) = 9; vendor(0, 50, 8, 9) = 0; vendor(0, 50, 8, 0) = 1; at(0, 6) = 9; at(1, 20) = 0")
            .hold("Throws `IndexOutOfBoundsException` if there is no such vendor",
                "place(0) = 0; at(0, 6)" + Streets.INDEX, "vendor(0, 50, 8, 0) = 0",
                "at(1, 6) | at(-1, 6) | at(MIN, 6) | at(MAX, 6)" + Streets.INDEX, "7 * vendor(0, 50, 8, 0) = 7",
                "at(8, 6)" + Streets.INDEX, "at(7, 6) = 0")
            .hold("Throws `IllegalArgumentException` if a number is out of range",
                VENDOR, "at(0, 5) | at(0, 21) | at(0, 0) | at(0, -1) | at(0, MIN) | at(0, MAX)" + Streets.ARGUMENT, "at(0, 6) = 0",
                "at(0, 20) = 0");
    }

    private static void setPrice() {
        Sentences.of("promise 13")
            .hold("Sets the price of a vendor.",
                Streets.TWO_CRIERS, Streets.BUYER, "setPrice(1, 7) = 8; pass(1) = 1; sale(0, 'v') = 1; sale(0, 'p') = 7",
                "setPrice(1, 9) = 7; pass(15) = 16; sale(1, 'v') = 0; sale(1, 'p') = 8")
            .hold("- `price`: 1 to 99",
                VENDOR, "setPrice(0, 99) = 8; setPrice(0, 1) = 99; setPrice(0, 98) = 1; setPrice(0, 2) = 98")
            .hold("Returns the one before.",
                VENDOR, "vendor(0, 50, 99, 0) = 1; setPrice(0, 9) = 8; setPrice(0, 9) = 9; setPrice(0, 10) = 9",
                "setPrice(1, 1) = 99")
            .hold("Throws `IndexOutOfBoundsException` if there is no such vendor",
                "place(0) = 0; setPrice(0, 5)" + Streets.INDEX, "vendor(0, 50, 8, 0) = 0",
                "setPrice(1, 5) | setPrice(-1, 5) | setPrice(MIN, 5) | setPrice(MAX, 5)" + Streets.INDEX,
                "7 * vendor(0, 50, 8, 0) = 7; setPrice(8, 5)" + Streets.INDEX, "setPrice(7, 5) = 8")
            .hold("Throws `IllegalArgumentException` if a number is out of range",
                VENDOR,
                "setPrice(0, 0) | setPrice(0, 100) | setPrice(0, -1) | setPrice(0, MIN) | setPrice(0, MAX)" + Streets.ARGUMENT,
                "setPrice(0, 1) = 8; setPrice(0, 0) | setPrice(0, 100)" + Streets.ARGUMENT, "setPrice(0, 99) = 1");
    }

    private static void stock() {
        Sentences.of("promise 14")
            .hold("Brings stock to a vendor.",
                VENDOR, "vendor(0, 50, 8, 0) = 1; stock(0, 5) = 5; of(0, 's') = 5; of(1, 's') = 0; stock(1, 1) = 1; of(0, 's') = 5",
                "of(1, 's') = 1")
            .hold("- `many`: 1 to 99",
                VENDOR, "stock(0, 1) = 1; stock(0, 99) = 100; stock(0, 2) = 102; stock(0, 98) = 200")
            .hold("Returns how many there are.",
                Streets.CRIER, Streets.BUYER, "pass(1) = 1; stock(0, 1) = 99; of(0, 's') = 99; stock(0, 99) = 198",
                "of(0, 's') = 198")
            .hold("Throws `IndexOutOfBoundsException` if there is no such vendor",
                "place(0) = 0; stock(0, 5)" + Streets.INDEX, "vendor(0, 50, 8, 0) = 0",
                "stock(1, 5) | stock(-1, 5) | stock(MIN, 5) | stock(MAX, 5)" + Streets.INDEX, "7 * vendor(0, 50, 8, 0) = 7",
                "stock(8, 5)" + Streets.INDEX, "stock(7, 5) = 5")
            .hold("Throws `IllegalArgumentException` if a number is out of range",
                VENDOR, "stock(0, 0) | stock(0, 100) | stock(0, -1) | stock(0, MIN) | stock(0, MAX)" + Streets.ARGUMENT,
                "of(0, 's') = 0; stock(0, 99) = 99; stock(0, 0) | stock(0, 100) | stock(0, -1)" + Streets.ARGUMENT,
                "of(0, 's') = 99")
            .hold("Throws `UnsupportedOperationException` if there would be more than 999",
                VENDOR, "10 * stock(0, 99) = 990; stock(0, 10) | stock(0, 11) | stock(0, 99)" + Streets.UNSUPPORTED,
                "of(0, 's') = 990; stock(0, 9) = 999; stock(0, 1)" + Streets.UNSUPPORTED, "of(0, 's') = 999",
                "vendor(0, 50, 8, 0) = 1; 10 * stock(1, 99) = 990; stock(1, 8) = 998; stock(1, 2)" + Streets.UNSUPPORTED,
                "stock(1, 1) = 999")
            .hold("if there would be more than 999",
                Streets.CRIER, Streets.BUYER, "9 * stock(0, 99) = 990; stock(0, 9) = 999; pass(1) = 1; of(0, 's') = 998",
                "stock(0, 2)" + Streets.UNSUPPORTED, "stock(0, 1) = 999");
    }

    private static void hush() {
        Sentences.of("promise 15")
            .hold("Hushes a vendor, or no more.",
                Streets.TWO_CRIERS, "hush(0, true) = false; isSilent(0) = true; isSilent(1) = false; hush(0, false) = true",
                "isSilent(0) = false; hush(1, true) = false; pass(1) = 1; isSilent(1) = true; of(1, 't') = 0; of(0, 't') = 3")
            .hold("- `is`: whether the vendor is hushed then",
                Streets.CRIER, "hush(0, false) = false; isSilent(0) = false; hush(0, true) = false; isSilent(0) = true",
                "hush(0, true) = true; isSilent(0) = true; hush(0, false) = true; isSilent(0) = false")
            .hold("Returns whether so before.",
                VENDOR, "vendor(0, 50, 8, 0) = 1; isSilent(0) = true; hush(0, true) = false; hush(0, true) = true",
                "hush(1, true) = false; hush(0, false) = true; hush(0, false) = false; pass(60) = 60; hush(1, false) = true")
            .hold("Throws `IndexOutOfBoundsException` if there is no such vendor",
                "place(0) = 0; hush(0, true)" + Streets.INDEX, "vendor(0, 50, 8, 0) = 0",
                "hush(1, true) | hush(-1, true) | hush(MIN, false) | hush(MAX, true)" + Streets.INDEX,
                "7 * vendor(0, 50, 8, 0) = 7; hush(8, true)" + Streets.INDEX, "hush(7, true) = false; hush(0, false) = false");
    }

    private static void setMelting() {
        Sentences.of("promise 16")
            .hold("Tells whether a ware melts.",
                Streets.TWO_CRIERS, "vendor(5, 50, 8, 0) = 2; stock(2, 9) = 9; setMelting(5, true) = false; pass(1) = 1",
                "of(2, 's') = 8; of(0, 's') = 99; setMelting(0, true) = false; pass(1) = 2; of(2, 's') = 7; of(0, 's') = 98",
                "of(1, 's') = 98")
            .hold("- `ware`: 0 to 5",
                "setMelting(0, true) = false; setMelting(5, true) = false; setMelting(0, false) = true",
                "setMelting(5, false) = true; setMelting(4, true) = false; setMelting(1, true) = false",
                "setMelting(5, false) = false; setMelting(4, true) = true")
            .hold("- `is`: whether it melts",
                Streets.CRIER, "setMelting(0, true) = false; pass(1) = 1; of(0, 's') = 98; setMelting(0, false) = true",
                "pass(1) = 2; of(0, 's') = 98; setMelting(0, true) = false; setMelting(0, true) = true; pass(1) = 3",
                "of(0, 's') = 97")
            .hold("Returns whether it did, not at first.",
                "setMelting(0, false) = false; setMelting(1, false) = false; setMelting(2, true) = false",
                "setMelting(2, true) = true; setMelting(3, true) = false; setMelting(4, true) = false; setMelting(5, true) = false",
                "setMelting(5, false) = true; setMelting(5, false) = false")
            .hold("Throws `IllegalArgumentException` if a number is out of range",
                "setMelting(-1, true) | setMelting(6, true) | setMelting(MIN, true) | setMelting(MAX, false)" + Streets.ARGUMENT,
                "setMelting(0, true) = false; setMelting(5, true) = false");
    }

    private static void isSilent() {
        Sentences.of("promise 17")
            .hold("Tells whether a vendor is silent by now.",
                Streets.CRIER, Streets.BUYER, "isSilent(0) = false; setMelting(0, true) = false; pass(49) = 49; of(0, 's') = 46",
                "isSilent(0) = false; pass(44) = 93; of(0, 's') = 0; isSilent(0) = true")
            .hold("Returns whether so.",
                "place(0) = 0; vendor(0, 50, 8, 0) = 0; isSilent(0) = true; stock(0, 1) = 1; 2 * type(1) = 2; setCry(0) = 0",
                "isSilent(0) = false", Streets.BUYER, "pass(1) = 1; sales() = 1; isSilent(0) = true; stock(0, 1) = 1",
                "isSilent(0) = false; hush(0, true) = false; isSilent(0) = true")
            .hold("Throws `IndexOutOfBoundsException` if there is no such vendor",
                "place(0) = 0; isSilent(0)" + Streets.INDEX, "vendor(0, 50, 8, 0) = 0",
                "isSilent(1) | isSilent(-1) | isSilent(MIN) | isSilent(MAX)" + Streets.INDEX, "7 * vendor(0, 50, 8, 0) = 7",
                "isSilent(8)" + Streets.INDEX, "isSilent(7) = true");
    }

    private static void of() {
        Sentences.of("promise 18")
            .hold("Returns a number of a vendor.",
                Streets.TWO_CRIERS, "stock(1, 1) = 100; of(0, 's') = 99; of(1, 's') = 100; vendor(5, 60, 1, 0) = 2; of(2, 'w') = 5",
                "of(2, 'v') = 60")
            .hold("- `what`: 's' stock, 't' tiredness, 'v' voice, 'f' fines, 'e' what was sold for, 'w' the ware",
                "place(0) = 0; vendor(4, 20, 8, 0) = 0; 2 * type(1) = 2; setCry(0) = 0; stock(0, 5) = 5; window(0, 0) = 0",
                "want(0, 4, 127, 6, 20, 9) = 1; setLimit(6, 19) = 99; pass(2) = 2; raid(0) = 1; of(0, 's') = 4; of(0, 't') = 6",
                "of(0, 'v') = 19; of(0, 'f') = 35; of(0, 'e') = 8; of(0, 'w') = 4; pay(0, 0, 8) = 0; of(0, 'e') = 8",
                "of(0, 's') = 4")
            .hold("Returns the number.",
                VENDOR, "of(0, 's') = 0; of(0, 't') = 0; of(0, 'v') = 50; of(0, 'f') = 0; of(0, 'e') = 0; of(0, 'w') = 0")
            .hold("Throws `IndexOutOfBoundsException` if there is no such vendor",
                "place(0) = 0; of(0, 's')" + Streets.INDEX, "vendor(0, 50, 8, 0) = 0",
                "of(1, 's') | of(-1, 't') | of(MIN, 'v') | of(MAX, 'f') | of(1, 'e') | of(1, 'w')" + Streets.INDEX,
                "7 * vendor(0, 50, 8, 0) = 7; of(8, 's')" + Streets.INDEX, "of(7, 's') = 0")
            .hold("Throws `IllegalArgumentException` if there is no such number",
                VENDOR,
                "of(0, 'r') | of(0, 'u') | of(0, 'x') | of(0, 'd') | of(0, 'g') | of(0, 'p') | of(0, 'h') | of(0, 'a')"
                    + " | of(0, 'z')" + Streets.ARGUMENT,
                "of(0, 'S') | of(0, 'T') | of(0, 'V') | of(0, 'F') | of(0, 'E') | of(0, 'W') | of(0, ' ') | of(0, 0)"
                    + " | of(0, 65535) | of(0, 371)" + Streets.ARGUMENT,
                "of(0, 's') = 0");
    }

    private static void strength() {
        Sentences.of("promise 19")
            .hold("Returns the strength of a voice at a place by now.",
                Streets.ROW, "goTo(0, 7, 1) = 0; strength(0, 0) = 50; strength(0, 1) = 20; pass(1) = 1; strength(0, 0) = 20",
                "strength(0, 1) = 50; strength(0, 2) = 20")
            .hold("- `vendor`: the vendor, silent or not",
                Streets.CRIER, "strength(0, 0) = 50; hush(0, true) = false; isSilent(0) = true; strength(0, 0) = 50",
                "vendor(0, 60, 1, 0) = 1; isSilent(1) = true; strength(1, 0) = 60")
            .hold("Returns the strength.",
                "2 * place(0) = 1; link(0, 1, 5) = 0; vendor(0, 26, 1, 0) = 0; strength(0, 1) = 1; setWind(1) = 0",
                "strength(0, 1) = 0; strength(0, 0) = 25")
            .hold("Throws `IndexOutOfBoundsException` if there is no such vendor or place",
                "place(0) = 0; strength(0, 0)" + Streets.INDEX, "vendor(0, 50, 8, 0) = 0",
                "strength(1, 0) | strength(-1, 0) | strength(MIN, 0) | strength(MAX, 0) | strength(0, 1) | strength(0, -1)"
                    + " | strength(0, MIN) | strength(0, MAX)" + Streets.INDEX,
                "9 * place(0) = 9; 7 * vendor(0, 50, 8, 9) = 7; strength(8, 9) | strength(7, 10)" + Streets.INDEX,
                "strength(7, 9) = 50");
    }
}
