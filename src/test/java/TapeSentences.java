/** What the document says of tapes, and promises 34 to 38. */
final class TapeSentences {
    /** Two places without a way, and three vendors who are not silent at each, of wares 0, 1, 2 and 1, 2, 0. */
    private static final String TWO_CORNERS = "2 * place(0) = 1; 2 * type(1) = 2"
        + "; vendor(0, 60, 1, 0) = 0; vendor(1, 60, 1, 0) = 1; vendor(2, 60, 1, 0) = 2"
        + "; vendor(1, 60, 1, 1) = 3; vendor(2, 60, 1, 1) = 4; vendor(0, 60, 1, 1) = 5"
        + "; setCry(0) = 0; setCry(1) = 0; setCry(2) = 0; setCry(3) = 0; setCry(4) = 0; setCry(5) = 0"
        + "; stock(0, 99) = 99; stock(1, 99) = 99; stock(2, 99) = 99; stock(3, 99) = 99; stock(4, 99) = 99; stock(5, 99) = 99";

    private TapeSentences() {
    }

    static void hold() {
        tapes();
        whatIsWritten();
        fortyAtMost();
        howTapesDiffer();
        tape();
        length();
        wareAt();
        differ();
        nearest();
        nearestRefused();
    }

    private static void tapes() {
        Sentences.of("Tapes")
            .hold("At most 6 are numbered from 0",
                "place(0) = 0; tape(0) = 0; tape(0) = 1; 4 * tape(0) = 5; length(0) = 0; length(5) = 0; tape(0)" + Streets.STATE,
                "length(6) | length(-1)" + Streets.INDEX)
            .hold("each at a place",
                "2 * place(0) = 1; vendor(0, 60, 1, 0) = 0; vendor(5, 60, 1, 1) = 1; 2 * type(1) = 2; setCry(0) = 0; setCry(1) = 0",
                "stock(0, 9) = 9; stock(1, 9) = 9; tape(1) = 0; tape(0) = 1; tape(1) = 2; pass(1) = 1; wareAt(0, 0) = 5",
                "wareAt(1, 0) = 0; wareAt(2, 0) = 5; length(0) = 1; length(1) = 1; length(2) = 1")
            .hold("from its beginning on it writes down for each hour",
                Streets.LOUD, "pass(1) = 1; tape(0) = 0; length(0) = 0; pass(1) = 2; length(0) = 1; tape(0) = 1; pass(13) = 15",
                "length(0) = 14; length(1) = 13; pass(1) = 16; length(0) = 15; tape(0) = 2; length(2) = 0");
    }

    private static void whatIsWritten() {
        Sentences.of("Tapes")
            .hold("the wares of those vendors who are not silent",
                TWO_CORNERS, "tape(0) = 0; hush(1, true) = false; vendor(5, 60, 1, 0) = 6; setCry(6) = 0; vendor(4, 60, 1, 0) = 7",
                "stock(7, 9) = 9; pass(1) = 1; length(0) = 2; wareAt(0, 0) = 0; wareAt(0, 1) = 2; hush(1, false) = true",
                "stock(6, 1) = 1; setCry(7) = 0; hush(0, true) = false; pass(1) = 2; length(0) = 6; wareAt(0, 2) = 1",
                "wareAt(0, 3) = 2; wareAt(0, 4) = 5; wareAt(0, 5) = 4")
            .hold("and whose strength is 10 or more there",
                "place(1) = 0; place(0) = 1; place(2) = 2; link(0, 1, 4) = 0; link(0, 2, 4) = 0; vendor(3, 31, 8, 0) = 0",
                "2 * type(1) = 2; setCry(0) = 0; stock(0, 9) = 9; strength(0, 1) = 11; strength(0, 2) = 9; tape(0) = 0",
                "tape(1) = 1; tape(2) = 2; pass(1) = 1; length(0) = 1; length(1) = 1; length(2) = 0; setWind(1) = 0",
                "strength(0, 1) = 10; pass(1) = 2; length(1) = 2; length(2) = 0; of(0, 't') = 6; strength(0, 1) = 9; pass(1) = 3",
                "length(1) = 2; length(0) = 3; setWind(0) = 1; strength(0, 1) = 9; pass(1) = 4; length(1) = 2")
            .hold(", by the numbers of vendors",
                TWO_CORNERS, "tape(1) = 0; vendor(5, 60, 1, 1) = 6; setCry(6) = 0; stock(6, 9) = 9; setPrice(3, 9) = 1",
                "pass(2) = 2; length(0) = 8; wareAt(0, 0) = 1; wareAt(0, 1) = 2; wareAt(0, 2) = 0; wareAt(0, 3) = 5",
                "wareAt(0, 4) = 1; wareAt(0, 7) = 5");
    }

    private static void fortyAtMost() {
        Sentences.of("Tapes")
            .hold(", 40 at most.",
                TWO_CORNERS, "tape(1) = 0; pass(13) = 13; length(0) = 39; wareAt(0, 38) = 0; tape(1) = 1; pass(1) = 14",
                "length(0) = 40; wareAt(0, 39) = 1; wareAt(0, 40)" + Streets.NONE, "pass(1) = 15; length(0) = 40",
                "wareAt(0, 39) = 1; wareAt(0, 0) = 1; length(1) = 6; pass(60) = 75; length(0) = 40; length(1) = 40",
                "wareAt(1, 39) = 1; wareAt(1, 40)" + Streets.NONE)
            .hold("by the numbers of vendors, 40 at most.",
                TWO_CORNERS, "hush(4, true) = false; tape(1) = 0; pass(20) = 20; length(0) = 40; wareAt(0, 38) = 1",
                "wareAt(0, 39) = 0; pass(1) = 21; length(0) = 40; wareAt(0, 39) = 0; wareAt(0, 0) = 1");
    }

    private static void howTapesDiffer() {
        Sentences.of("Tapes")
            .hold("Two tapes differ by the least number of changes by which one row of wares becomes the other one",
                TWO_CORNERS, "tape(0) = 0; tape(1) = 1; differ(0, 1) = 0; pass(1) = 1; differ(0, 1) = 2; differ(1, 0) = 2",
                "pass(1) = 2; differ(0, 1) = 2; hush(0, true) = false; hush(1, true) = false; pass(1) = 3; differ(0, 1) = 3",
                "differ(1, 0) = 3; hush(3, true) = false; hush(4, true) = false; pass(2) = 5; differ(0, 1) = 5; differ(1, 0) = 5")
            .hold(": a ware taken out",
                TWO_CORNERS, "tape(0) = 0; tape(0) = 1; pass(1) = 1; tape(0) = 2; differ(0, 1) = 0; differ(0, 2) = 3",
                "hush(1, true) = false; pass(1) = 2; hush(1, false) = true; differ(0, 2) = 3; pass(1) = 3; differ(0, 2) = 3",
                "hush(2, true) = false; hush(5, true) = false; tape(0) = 3; tape(1) = 4; hush(0, true) = false; pass(1) = 4",
                "hush(4, true) = false; pass(1) = 5; differ(3, 4) = 1; differ(4, 3) = 1; length(3) = 2; length(4) = 3")
            .hold(", put in",
                TWO_CORNERS, "tape(0) = 0; tape(1) = 1; hush(0, true) = false; hush(5, true) = false; hush(2, true) = false",
                "pass(1) = 1; length(0) = 1; length(1) = 2; differ(0, 1) = 1; differ(1, 0) = 1; hush(3, true) = false",
                "hush(1, true) = false; hush(2, false) = true; pass(1) = 2; differ(0, 1) = 1; hush(2, true) = false; pass(3) = 5",
                "length(0) = 2; length(1) = 6; differ(0, 1) = 4; differ(1, 0) = 4")
            .hold(", or made another one.",
                TWO_CORNERS, "tape(0) = 0; tape(1) = 1; hush(1, true) = false; hush(2, true) = false; hush(4, true) = false",
                "hush(5, true) = false; pass(1) = 1; differ(0, 1) = 1; differ(1, 0) = 1; pass(4) = 5; differ(0, 1) = 5",
                "hush(0, true) = false; hush(1, false) = true; pass(4) = 9; differ(0, 1) = 5; differ(1, 0) = 5",
                "hush(3, true) = false; hush(4, false) = true; pass(1) = 10; differ(0, 1) = 6");
    }

    private static void tape() {
        Sentences.of("promise 34")
            .hold("Begins a tape.",
                Streets.LOUD, "length(0)" + Streets.INDEX, "pass(2) = 2; tape(0) = 0; length(0) = 0; length(1)" + Streets.INDEX,
                "pass(1) = 3; length(0) = 1")
            .hold("Returns its number.",
                "place(0) = 0; tape(0) = 0; tape(0) = 1; tape(0) = 2; tape(0) = 3; tape(0) = 4; tape(0) = 5")
            .hold("Throws `IndexOutOfBoundsException` if there is no such place",
                "tape(0)" + Streets.INDEX, "place(0) = 0; tape(1) | tape(-1) | tape(MIN) | tape(MAX)" + Streets.INDEX,
                "tape(0) = 0; 9 * place(0) = 9; tape(10)" + Streets.INDEX, "tape(9) = 1")
            .hold("Throws `IllegalStateException` if there are 6",
                Streets.LOUD, "place(0) = 1; 4 * tape(1) = 3; tape(0) = 4; tape(0) = 5; tape(1) | tape(0)" + Streets.STATE, "pass(1) = 1",
                "length(3) = 0; length(4) = 1; length(5) = 1; tape(1) | tape(0)" + Streets.STATE, "pass(1) = 2; length(5) = 2",
                "length(6)" + Streets.INDEX);
    }

    private static void length() {
        Sentences.of("promise 35")
            .hold("Returns how many wares a tape has.",
                TWO_CORNERS, "tape(0) = 0; tape(1) = 1; hush(0, true) = false; pass(1) = 1; length(0) = 2; length(1) = 3",
                "hush(1, true) = false; hush(2, true) = false; pass(1) = 2; length(0) = 2; length(1) = 6")
            .hold("Returns how many.",
                Streets.LOUD, "tape(0) = 0; length(0) = 0; pass(1) = 1; length(0) = 1; pass(38) = 39; length(0) = 39; pass(1) = 40",
                "length(0) = 40; pass(1) = 41; length(0) = 40")
            .hold("Throws `IndexOutOfBoundsException` if there is no such tape",
                "place(0) = 0; length(0)" + Streets.INDEX, "tape(0) = 0",
                "length(1) | length(-1) | length(MIN) | length(MAX)" + Streets.INDEX, "5 * tape(0) = 5; length(6)" + Streets.INDEX,
                "length(5) = 0; length(0) = 0");
    }

    private static void wareAt() {
        Sentences.of("promise 36")
            .hold("Returns a ware of a tape.",
                TWO_CORNERS, "tape(0) = 0; tape(1) = 1; pass(1) = 1; wareAt(0, 0) = 0; wareAt(0, 1) = 1; wareAt(0, 2) = 2",
                "wareAt(1, 0) = 1; wareAt(1, 1) = 2; wareAt(1, 2) = 0")
            .hold("- `index`: from 0",
                Streets.LOUD, "vendor(5, 60, 1, 0) = 1; setCry(1) = 0; stock(1, 99) = 99; tape(0) = 0; pass(20) = 20",
                "wareAt(0, 0) = 0; wareAt(0, 1) = 5; wareAt(0, 38) = 0; wareAt(0, 39) = 5",
                "wareAt(0, -1) | wareAt(0, 40)" + Streets.NONE)
            .hold("Returns the ware.",
                "place(0) = 0; vendor(5, 60, 1, 0) = 0; 2 * type(1) = 2; setCry(0) = 0; stock(0, 9) = 9; tape(0) = 0; pass(1) = 1",
                "wareAt(0, 0) = 5; hush(0, true) = false; pass(15) = 16; wareAt(0, 0) = 5")
            .hold("Throws `IndexOutOfBoundsException` if there is no such tape",
                Streets.LOUD, "wareAt(0, 0)" + Streets.INDEX, "tape(0) = 0; pass(1) = 1",
                "wareAt(1, 0) | wareAt(-1, 0) | wareAt(MIN, 0) | wareAt(MAX, 0)" + Streets.INDEX, "5 * tape(0) = 5; pass(1) = 2",
                "wareAt(6, 0)" + Streets.INDEX, "wareAt(5, 0) = 0; wareAt(0, 0) = 0")
            .hold("if there is no such one",
                Streets.LOUD, "place(0) = 1; tape(1) = 0; tape(0) = 1; pass(2) = 2; tape(0) = 2; pass(1) = 3; wareAt(1, 2) = 0",
                "wareAt(2, 0) = 0; wareAt(0, 0) | wareAt(1, 3) | wareAt(2, 1)" + Streets.NONE, "pass(40) = 43; wareAt(1, 39) = 0",
                "wareAt(2, 39) = 0; wareAt(0, 0) | wareAt(1, 40) | wareAt(2, 40)" + Streets.NONE)
            .hold("Throws `NoSuchElementException` if there is no such one",
                Streets.LOUD, "tape(0) = 0; wareAt(0, 0) | wareAt(0, -1) | wareAt(0, 1)" + Streets.NONE, "pass(1) = 1",
                "wareAt(0, 0) = 0",
                "wareAt(0, 1) | wareAt(0, -1) | wareAt(0, 39) | wareAt(0, 40) | wareAt(0, MIN) | wareAt(0, MAX)" + Streets.NONE,
                "pass(39) = 40; wareAt(0, 39) = 0; wareAt(0, 40) | wareAt(0, 41)" + Streets.NONE, "pass(1) = 41",
                "wareAt(0, 40)" + Streets.NONE);
    }

    private static void differ() {
        Sentences.of("promise 37")
            .hold("Returns by how much two tapes differ.",
                TWO_CORNERS, "tape(0) = 0; tape(1) = 1; tape(0) = 2; pass(1) = 1; differ(0, 1) = 2; differ(1, 0) = 2",
                "differ(0, 2) = 0; differ(2, 1) = 2; hush(0, true) = false; tape(0) = 3; pass(1) = 2; differ(0, 2) = 0",
                "differ(3, 0) = 3")
            .hold("- `other`: another one, or the same",
                TWO_CORNERS, "6 * tape(0) = 5; differ(5, 5) = 0; differ(0, 5) = 0; pass(20) = 20; differ(0, 0) = 0",
                "differ(5, 5) = 0; differ(5, 0) = 0")
            .hold("Returns by how much.",
                TWO_CORNERS, "hush(1, true) = false; hush(2, true) = false; hush(4, true) = false; hush(5, true) = false",
                "tape(0) = 0; tape(1) = 1; differ(0, 1) = 0; pass(1) = 1; differ(0, 1) = 1; tape(0) = 2; differ(0, 2) = 1",
                "differ(2, 0) = 1; pass(38) = 39; differ(0, 1) = 39; differ(0, 2) = 1; pass(1) = 40; differ(0, 1) = 40",
                "differ(1, 0) = 40; differ(0, 2) = 1; tape(0) = 3; differ(0, 3) = 40; differ(3, 0) = 40; pass(1) = 41",
                "differ(0, 1) = 40; differ(0, 2) = 0; differ(3, 0) = 39")
            .hold("Throws `IndexOutOfBoundsException` if there is no such tape, for either",
                "place(0) = 0; differ(0, 0)" + Streets.INDEX, "2 * tape(0) = 1",
                "differ(0, 2) | differ(2, 0) | differ(2, 2) | differ(0, -1) | differ(-1, 0) | differ(0, MIN) | differ(MIN, 0)"
                    + " | differ(0, MAX) | differ(MAX, 0)" + Streets.INDEX,
                "4 * tape(0) = 5; differ(6, 5) | differ(5, 6)" + Streets.INDEX, "differ(5, 0) = 0; differ(0, 5) = 0");
    }

    private static void nearest() {
        Sentences.of("promise 38")
            .hold("Returns the tape that differs least from another one.",
                Streets.LOUD, "tape(0) = 0; pass(4) = 4; tape(0) = 1; pass(1) = 5; tape(0) = 2; nearest(0) = 1; nearest(1) = 2",
                "nearest(2) = 1; pass(1) = 6; tape(0) = 3; tape(0) = 4; nearest(3) = 4; nearest(4) = 3; nearest(2) = 1")
            .hold("Returns the other one, of like ones the lowest.",
                Streets.LOUD, "6 * tape(0) = 5; nearest(0) = 1; nearest(1) = 0; nearest(5) = 0; pass(1) = 1; nearest(0) = 1",
                "nearest(3) = 0; nearest(5) = 0")
            .hold("of like ones the lowest.",
                TWO_CORNERS, "hush(1, true) = false; hush(2, true) = false; hush(4, true) = false; hush(5, true) = false",
                "tape(0) = 0; tape(1) = 1; pass(60) = 60; differ(0, 1) = 40; nearest(0) = 1; nearest(1) = 0; 2 * tape(0) = 3",
                "differ(0, 3) = 40; nearest(0) = 1; nearest(1) = 0; nearest(2) = 3; nearest(3) = 2; pass(1) = 61; nearest(2) = 3",
                "nearest(0) = 2; nearest(1) = 0")
            .hold("the other one, of like ones the lowest.",
                Streets.LOUD, "tape(0) = 0; pass(1) = 1; tape(0) = 1; pass(1) = 2; tape(0) = 2; pass(1) = 3; tape(0) = 3",
                "nearest(0) = 1; nearest(1) = 0; nearest(2) = 1; nearest(3) = 2");
    }

    private static void nearestRefused() {
        Sentences.of("promise 38")
            .hold("Throws `IndexOutOfBoundsException` if there is no such tape",
                "place(0) = 0; nearest(0)" + Streets.INDEX, "2 * tape(0) = 1",
                "nearest(2) | nearest(-1) | nearest(MIN) | nearest(MAX)" + Streets.INDEX, "4 * tape(0) = 5",
                "nearest(6)" + Streets.INDEX, "nearest(5) = 0; nearest(0) = 1")
            .hold("Throws `NoSuchElementException` if there is no other one",
                Streets.LOUD, "tape(0) = 0; nearest(0)" + Streets.NONE, "pass(60) = 60; nearest(0)" + Streets.NONE, "tape(0) = 1",
                "nearest(0) = 1; nearest(1) = 0");
    }
}
