/** What the document says of exceptions, method by method: of several that apply, the one that is listed first. */
final class OrderSentences {
    private static final String FIRST = "If several conditions of a method apply, the exception that is listed first is thrown.";
    private static final String NOTHING = "A method that throws an exception changes nothing.";
    private static final String TWO_PLACES = "2 * place(0) = 1; vendor(0, 50, 8, 0) = 0";

    private OrderSentences() {
    }

    static void hold() {
        streetAndCries();
        vendors();
        windows();
        hoursAndLaw();
        tapes();
        changesNothing();
        everythingIsFull();
    }

    private static void hold(String... script) {
        Sentences.of("Exceptions").hold(FIRST,
            script);
    }

    private static void streetAndCries() {
        hold("10 * place(0) = 9; place(10) | place(-1) | place(MAX)" + Streets.ARGUMENT, "place(0)" + Streets.STATE);
        hold("2 * place(0) = 1",
            "link(2, 2, 0) | link(2, 2, 1) | link(0, 2, 0) | link(2, 0, 10) | link(-1, -1, -1) | link(-1, 0, 10)"
                + " | link(0, -1, 0)" + Streets.INDEX,
            "link(1, 1, 0) | link(1, 1, 10) | link(0, 1, 0)" + Streets.ARGUMENT);
        hold("2 * place(0) = 1; far(0, 2) | far(2, 1) | far(-1, 1)" + Streets.INDEX, "far(0, 1)" + Streets.NONE);
        hold("8 * type(0) = 8; type(10) | type(-1)" + Streets.ARGUMENT, "type(9)" + Streets.STATE);
        hold("setCry(0)" + Streets.INDEX, TWO_PLACES, "setCry(1) | setCry(-1)" + Streets.INDEX, "setCry(0)" + Streets.UNSUPPORTED,
            "type(1) = 1; setCry(1)" + Streets.INDEX, "setCry(0)" + Streets.UNSUPPORTED);
        hold(TWO_PLACES, "apart(0, 1) | apart(1, 0) | apart(-1, 0) | apart(0, -1) | apart(1, 1)" + Streets.INDEX,
            "apart(0, 0)" + Streets.NONE);
        hold("freeCry(0)" + Streets.INDEX, "place(0) = 0; freeCry(1)" + Streets.INDEX);
    }

    private static void vendors() {
        hold("place(0) = 0",
            "vendor(6, 9, 0, 1) | vendor(0, 61, 1, 1) | vendor(0, 10, 100, -1) | vendor(-1, 10, 1, 1)" + Streets.INDEX,
            "8 * vendor(0, 10, 1, 0) = 7; vendor(0, 10, 1, 1) | vendor(0, 10, 1, -1) | vendor(6, 9, 100, 1)" + Streets.INDEX,
            "vendor(6, 10, 1, 0) | vendor(0, 9, 1, 0) | vendor(0, 61, 1, 0) | vendor(0, 10, 0, 0) | vendor(0, 10, 100, 0)"
                + " | vendor(-1, 10, 1, 0)" + Streets.ARGUMENT,
            "vendor(0, 10, 1, 0)" + Streets.STATE);
        hold(TWO_PLACES,
            "goTo(1, 5, 0) | goTo(0, 21, 2) | goTo(-1, 6, 1) | goTo(1, 7, 1) | goTo(0, 5, -1) | goTo(1, 21, 2)" + Streets.INDEX,
            "goTo(0, 5, 1) | goTo(0, 21, 1)" + Streets.ARGUMENT, "goTo(0, 7, 1) | goTo(0, 20, 1)" + Streets.UNSUPPORTED);
        hold(TWO_PLACES, "at(1, 5) | at(-1, 21)" + Streets.INDEX, "at(0, 5) | at(0, 21)" + Streets.ARGUMENT);
        hold(TWO_PLACES, "setPrice(1, 0) | setPrice(-1, 100)" + Streets.INDEX,
            "setPrice(0, 0) | setPrice(0, 100)" + Streets.ARGUMENT);
        hold(TWO_PLACES, "10 * stock(0, 99) = 990; stock(0, 9) = 999",
            "stock(1, 0) | stock(1, 100) | stock(-1, 1) | stock(1, 1)" + Streets.INDEX,
            "stock(0, 0) | stock(0, 100) | stock(0, -1) | stock(0, MAX)" + Streets.ARGUMENT,
            "stock(0, 1) | stock(0, 99)" + Streets.UNSUPPORTED);
        hold(TWO_PLACES, "of(1, 'x') | of(-1, 'S')" + Streets.INDEX, "of(0, 'x')" + Streets.ARGUMENT);
    }

    private static void windows() {
        hold("window(0, 6)" + Streets.INDEX, "place(0) = 0; window(1, 6) | window(-1, -1)" + Streets.INDEX, "12 * window(0, 0) = 11",
            "window(1, 0) | window(1, 6) | window(-1, 0)" + Streets.INDEX, "window(0, 6) | window(0, -1)" + Streets.ARGUMENT,
            "window(0, 5)" + Streets.STATE);
        hold("place(0) = 0; window(0, 0) = 0",
            "want(1, 6, 0, 5, 4, 0) | want(-1, 0, 127, 6, 20, 100) | want(1, 0, 127, 9, 8, 9)" + Streets.INDEX,
            "4 * want(0, 0, 127, 6, 20, 9) = 4; want(1, 0, 127, 6, 20, 9)" + Streets.INDEX,
            "want(0, 6, 127, 6, 20, 9) | want(0, 0, 0, 6, 20, 9) | want(0, 0, 128, 6, 20, 9) | want(0, 0, 127, 5, 20, 9)"
                + " | want(0, 0, 127, 9, 8, 9) | want(0, 0, 127, 6, 21, 9) | want(0, 0, 127, 6, 20, 0)"
                + " | want(0, 0, 127, 6, 20, 100) | want(0, -1, 127, 6, 20, 9)" + Streets.ARGUMENT,
            "want(0, 0, 127, 6, 20, 9)" + Streets.STATE);
        hold(Streets.CRIER, Streets.BUYER, "pass(1) = 1",
            "pay(1, 0, 0) | pay(0, 1, 1000) | pay(-1, 0, 1) | pay(0, 1, 9) | pay(1, 1, 9) | pay(0, -1, 0)" + Streets.INDEX,
            "pay(0, 0, 0) | pay(0, 0, 1000)" + Streets.ARGUMENT, "pay(0, 0, 9) | pay(0, 0, 999)" + Streets.UNSUPPORTED,
            "owes(0, 0) = 8");
    }

    private static void hoursAndLaw() {
        hold("75 * pass(60) = 4500; pass(14) = 4514; pass(0) | pass(61) | pass(-1) | pass(MAX) | pass(MIN)" + Streets.ARGUMENT,
            "pass(1) | pass(60)" + Streets.STATE);
        hold("sale(0, 'x') | sale(-1, 'W') | sale(1, 's')" + Streets.ARGUMENT, "sale(0, 'w') | sale(-1, 'h')" + Streets.NONE,
            Streets.CRIER, Streets.BUYER, "pass(1) = 1; sale(1, 'x') | sale(0, 'x')" + Streets.ARGUMENT,
            "sale(1, 'w')" + Streets.NONE);
        hold(TWO_PLACES, "permit(1, 0, 5, 4) | permit(0, 2, 6, 21) | permit(-1, 0, 8, 7) | permit(0, -1, 21, 21)" + Streets.INDEX,
            "6 * permit(0, 0, 6, 6) = 6; permit(0, 2, 6, 6) | permit(1, 0, 6, 6)" + Streets.INDEX,
            "permit(0, 0, 5, 6) | permit(0, 0, 7, 6) | permit(0, 0, 6, 21) | permit(0, 0, 21, 21)" + Streets.ARGUMENT,
            "permit(0, 0, 6, 6)" + Streets.STATE);
    }

    private static void tapes() {
        hold("tape(0)" + Streets.INDEX, "place(0) = 0; 6 * tape(0) = 5; tape(1) | tape(-1)" + Streets.INDEX,
            "tape(0)" + Streets.STATE);
        hold("place(0) = 0; wareAt(0, 0) | wareAt(0, -1)" + Streets.INDEX, "tape(0) = 0",
            "wareAt(1, 0) | wareAt(1, -1) | wareAt(-1, 40)" + Streets.INDEX,
            "wareAt(0, 0) | wareAt(0, -1) | wareAt(0, 40)" + Streets.NONE);
        hold("place(0) = 0; nearest(0)" + Streets.INDEX, "tape(0) = 0; nearest(1) | nearest(-1)" + Streets.INDEX,
            "nearest(0)" + Streets.NONE);
    }

    /** Calls that would change much if they were not refused, on a street on which much has happened. */
    private static void changesNothing() {
        Sentences.of("Exceptions").hold(NOTHING,
            Streets.TWO_CRIERS, "place(3) = 1; link(0, 1, 2) = 0; goTo(1, 9, 1) = 0; window(1, 1) = 0",
            "want(0, 0, 127, 6, 20, 50) = 1; want(0, 0, 63, 7, 9, 50) = 2; tape(1) = 0; tape(0) = 1; permit(0, 0, 6, 9) = 1",
            "setLimit(8, 30) = 99; setMelting(0, true) = false; setWind(2) = 0; pass(17) = 17; raid(0) = 1; sales() = 4",
            "sale(0, 'w') = 0; sale(1, 'h') = 7; length(0) = 34; of(0, 't') = 21",
            "place(10) | setWind(10) | setWind(-1) | type(10) | type(-1) | setLimit(8, 100) | setLimit(5, 30)"
                + " | setLimit(8, -1) | pass(0) | pass(61) | link(0, 0, 5) | link(0, 1, 10) | setMelting(6, true)" + Streets.ARGUMENT,
            "vendor(0, 9, 1, 0) | vendor(6, 10, 1, 0) | goTo(0, 5, 1) | goTo(0, 21, 1) | setPrice(0, 0) | setPrice(0, 100)"
                + " | stock(0, 0) | stock(0, 100) | window(0, 6) | want(0, 0, 0, 6, 20, 9) | want(0, 0, 127, 9, 8, 9)"
                + " | pay(0, 0, 0) | permit(0, 0, 9, 8)" + Streets.ARGUMENT,
            "link(0, 2, 5) | link(2, 0, 5) | vendor(0, 10, 1, 2) | setCry(2) | goTo(2, 6, 1) | goTo(0, 6, 2) | setPrice(2, 9)"
                + " | stock(2, 9) | hush(2, true) | window(2, 0) | want(1, 0, 127, 6, 20, 9) | pay(1, 0, 1) | pay(0, 2, 1)"
                + " | permit(2, 0, 6, 6) | permit(0, 2, 6, 6) | raid(2) | tape(2)" + Streets.INDEX,
            "pay(0, 0, 199) | pay(0, 1, 199)" + Streets.UNSUPPORTED, "place(0) = 2",
            "goTo(0, 9, 2) | goTo(1, 20, 2)" + Streets.UNSUPPORTED, "wipe() = 2; setCry(0) | setCry(1)" + Streets.UNSUPPORTED,
            "10 * stock(0, 80) = 878; stock(0, 99) = 977; stock(0, 23)" + Streets.UNSUPPORTED, "isSound() = true");
    }

    /** What has no more room is refused, and what is there stays as it is. */
    private static void everythingIsFull() {
        Sentences.of("Exceptions").hold(NOTHING,
            "10 * place(1) = 9; link(0, 9, 2) = 0; 8 * vendor(2, 60, 9, 9) = 7; 8 * type(3) = 8; setCry(7) = 0; setCry(0) = 0",
            "stock(7, 99) = 99; 12 * window(0, 0) = 11; 4 * want(11, 2, 127, 6, 20, 9) = 4; 4 * want(0, 2, 127, 6, 20, 9) = 4",
            "6 * permit(7, 9, 6, 6) = 6; 6 * tape(9) = 5; raid(9) = 7; pass(50) = 50; sales() = 24; owes(11, 7) = 108",
            "length(5) = 40",
            "place(0) | type(1) | vendor(0, 60, 1, 0) | window(1, 1) | want(0, 1, 1, 7, 7, 1) | want(11, 1, 1, 7, 7, 1)"
                + " | permit(7, 0, 6, 20) | tape(0)" + Streets.STATE,
            "place(10) | type(10) | vendor(6, 60, 1, 0) | window(1, 6) | want(0, 1, 0, 7, 7, 1)"
                + " | permit(7, 0, 6, 5)" + Streets.ARGUMENT,
            "place(9)" + Streets.STATE, "wipe() = 8; isSound() = true");
    }
}
