/** What the document says of cries and of a free cry, and promises 6, 7, 9, 10 and 39. */
final class CrySentences {
    private static final String TWO_VENDORS = "place(0) = 0; 2 * vendor(0, 60, 1, 0) = 1";

    /** Two vendors who are heard at a window, the first one's cry being 1, 3. */
    private static final String TWO_HEARD = Streets.CRIER
        + "; vendor(1, 50, 8, 0) = 1; stock(1, 1) = 1; window(0, 0) = 0; wipe() = 2";

    private CrySentences() {
    }

    static void hold() {
        cries();
        alike();
        type();
        wipe();
        setCry();
        apart();
        aFreeCry();
        theFirstFreeCry();
        freeCry();
    }

    private static void cries() {
        Sentences.of("Cries")
            .hold("Tones, 0 to 9 each, are typed",
                "type(-1) | type(10)" + Streets.ARGUMENT, "wipe() = 0; type(0) = 1; type(9) = 2",
                "type(-1) | type(10)" + Streets.ARGUMENT, "wipe() = 2", TWO_VENDORS, "type(0) = 1; type(9) = 2; setCry(0) = 0",
                "wipe() = 2; 2 * type(0) = 2; setCry(1) = 0; apart(0, 1) = 9")
            .hold(", at most 8.",
                TWO_VENDORS, "7 * type(1) = 7; type(9) = 8; type(0)" + Streets.STATE, "setCry(0) = 0; wipe() = 8; 8 * type(1) = 8",
                "setCry(1) = 0; apart(0, 1) = 8")
            .hold("A cry is 2 tones or more.",
                TWO_VENDORS, "setCry(0)" + Streets.UNSUPPORTED, "type(1) = 1; setCry(0)" + Streets.UNSUPPORTED,
                "apart(0, 0)" + Streets.NONE, "type(1) = 2; setCry(0) = 0; apart(0, 0) = 0; type(1) = 3; setCry(1) = 0",
                "apart(0, 1) = 4; 5 * type(1) = 8; setCry(1) = 3")
            .hold("Two cries are so far apart as the amounts by which their tones differ, one by one, are together",
                TWO_VENDORS, "8 * type(9) = 8; setCry(0) = 0; wipe() = 8; 8 * type(0) = 8; setCry(1) = 0; apart(0, 1) = 72",
                "apart(1, 0) = 72; wipe() = 8; type(0) = 1; type(9) = 2; setCry(0) = 8; wipe() = 2; type(9) = 1; type(0) = 2",
                "setCry(1) = 8; apart(0, 1) = 18; apart(1, 0) = 18; wipe() = 2; type(1) = 1; type(7) = 2; setCry(1) = 2",
                "apart(0, 1) = 3; apart(1, 0) = 3")
            .hold("and 4 for each tone that one of them has more",
                TWO_VENDORS, "2 * type(0) = 2; setCry(0) = 0; type(9) = 3; setCry(1) = 0; apart(0, 1) = 4; apart(1, 0) = 4",
                "5 * type(9) = 8; setCry(1) = 3; apart(0, 1) = 24; apart(1, 0) = 24; setCry(0) = 2; apart(0, 1) = 0");
    }

    private static void alike() {
        Sentences.of("Cries")
            .hold("Two are alike if that is below 6.",
                TWO_HEARD, "type(1) = 1; type(8) = 2; setCry(1) = 0; apart(0, 1) = 5; hears(0, 0) = false; hears(0, 1) = false",
                "wipe() = 2; type(1) = 1; type(9) = 2; setCry(1) = 2; apart(0, 1) = 6; hears(0, 0) = true; hears(0, 1) = true",
                "wipe() = 2; type(0) = 1; type(3) = 2; type(9) = 3; setCry(1) = 2; apart(0, 1) = 5; hears(0, 0) = false",
                "hears(0, 1) = false; wipe() = 3; type(0) = 1; type(2) = 2; type(9) = 3; setCry(1) = 3; apart(0, 1) = 6",
                "hears(0, 0) = true; hears(0, 1) = true; wipe() = 3; type(1) = 1; type(3) = 2; setCry(1) = 3; apart(0, 1) = 0",
                "hears(0, 0) = false; hears(0, 1) = false");
    }

    private static void type() {
        Sentences.of("promise 6")
            .hold("Types a tone.",
                TWO_VENDORS, "type(7) = 1; type(2) = 2; setCry(0) = 0; wipe() = 2; type(2) = 1; type(7) = 2; setCry(1) = 0",
                "apart(0, 1) = 10")
            .hold("- `tone`: 0 to 9",
                TWO_VENDORS, "type(9) = 1; type(0) = 2; type(8) = 3; type(1) = 4; setCry(0) = 0; wipe() = 4; 4 * type(0) = 4",
                "setCry(1) = 0; apart(0, 1) = 18")
            .hold("Returns how many are typed.",
                "type(5) = 1; type(5) = 2; type(5) = 3; type(5) = 4; type(5) = 5; type(5) = 6; type(5) = 7; type(5) = 8",
                "wipe() = 8; type(5) = 1")
            .hold("Throws `IllegalArgumentException` if a number is out of range",
                "type(-1) | type(10) | type(MIN) | type(MAX)" + Streets.ARGUMENT, "type(0) = 1; 6 * type(9) = 7",
                "type(-1) | type(10)" + Streets.ARGUMENT, "type(9) = 8; type(-1) | type(10)" + Streets.ARGUMENT)
            .hold("Throws `IllegalStateException` if there are 8",
                "7 * type(1) = 7; type(1) = 8; type(1) | type(0) | type(9)" + Streets.STATE, "wipe() = 8; 8 * type(1) = 8",
                "type(1)" + Streets.STATE);
    }

    private static void wipe() {
        Sentences.of("promise 7")
            .hold("Takes the typed tones away.",
                TWO_VENDORS, "8 * type(9) = 8; setCry(1) = 0; wipe() = 8; setCry(0)" + Streets.UNSUPPORTED, "type(0) = 1",
                "setCry(0)" + Streets.UNSUPPORTED, "type(0) = 2; setCry(0) = 0; apart(0, 1) = 42")
            .hold("Returns how many there were.",
                "wipe() = 0; type(1) = 1; wipe() = 1; wipe() = 0; 8 * type(1) = 8; wipe() = 8; wipe() = 0; 7 * type(1) = 7",
                "wipe() = 7");
    }

    private static void setCry() {
        Sentences.of("promise 9")
            .hold("Gives a vendor the cry that is typed",
                TWO_VENDORS, "2 * type(1) = 2; setCry(1) = 0; apart(1, 1) = 0; apart(0, 1)" + Streets.NONE, "8 * stock(0, 9) = 72",
                "isSilent(0) = true; setCry(0) = 0; isSilent(0) = false; apart(0, 1) = 0; type(4) = 3; apart(0, 1) = 0",
                "setCry(1) = 2; apart(0, 1) = 4")
            .hold(", which stays typed.",
                TWO_VENDORS, "7 * type(1) = 7; setCry(0) = 0; type(1) = 8; setCry(1) = 0; wipe() = 8; apart(0, 1) = 4",
                "apart(0, 0) = 0")
            .hold("Returns how many tones the one before had",
                TWO_VENDORS, "2 * type(1) = 2; setCry(0) = 0; type(1) = 3; setCry(0) = 2; 5 * type(1) = 8; setCry(0) = 3",
                "setCry(0) = 8; setCry(1) = 0")
            .hold(", 0 without one.",
                TWO_VENDORS, "8 * type(1) = 8; setCry(1) = 0; setCry(0) = 0; setCry(1) = 8; vendor(0, 10, 1, 0) = 2; setCry(2) = 0")
            .hold("Throws `IndexOutOfBoundsException` if there is no such vendor",
                "2 * type(1) = 2; setCry(0)" + Streets.INDEX, "place(0) = 0; vendor(0, 10, 1, 0) = 0",
                "setCry(-1) | setCry(1) | setCry(MIN) | setCry(MAX)" + Streets.INDEX, "setCry(0) = 0; 7 * vendor(0, 10, 1, 0) = 7",
                "setCry(8)" + Streets.INDEX, "setCry(7) = 0")
            .hold("Throws `UnsupportedOperationException` if fewer than 2 tones are typed",
                TWO_VENDORS, "setCry(0) | setCry(1)" + Streets.UNSUPPORTED, "type(0) = 1",
                "setCry(0) | setCry(1)" + Streets.UNSUPPORTED, "type(0) = 2; setCry(0) = 0; wipe() = 2",
                "setCry(0)" + Streets.UNSUPPORTED, "type(9) = 1; setCry(0)" + Streets.UNSUPPORTED, "apart(0, 0) = 0; type(9) = 2",
                "setCry(0) = 2");
    }

    private static void apart() {
        Sentences.of("promise 10")
            .hold("Returns how far two cries are apart.",
                TWO_VENDORS, "type(3) = 1; type(8) = 2; setCry(0) = 0; wipe() = 2; type(5) = 1; type(5) = 2; type(0) = 3",
                "setCry(1) = 0; apart(0, 1) = 9")
            .hold("- `other`: another one, or the same",
                "place(0) = 0; 8 * vendor(0, 60, 1, 0) = 7; 2 * type(3) = 2; setCry(7) = 0; apart(7, 7) = 0; type(3) = 3",
                "setCry(0) = 0; apart(7, 0) = 4; apart(0, 7) = 4; apart(0, 0) = 0")
            .hold("Returns how far.",
                TWO_VENDORS, "type(0) = 1; type(1) = 2; setCry(0) = 0; setCry(1) = 0; apart(0, 1) = 0; wipe() = 2; type(0) = 1",
                "type(0) = 2; setCry(1) = 2; apart(0, 1) = 1; apart(1, 0) = 1; 6 * type(9) = 8; setCry(1) = 2; apart(0, 1) = 25")
            .hold("Throws `IndexOutOfBoundsException` if there is no such vendor, for either",
                "apart(0, 0)" + Streets.INDEX, TWO_VENDORS, "2 * type(3) = 2; setCry(0) = 0; setCry(1) = 0",
                "apart(0, 2) | apart(2, 0) | apart(2, 2) | apart(0, -1) | apart(-1, 0)" + Streets.INDEX,
                "apart(0, MAX) | apart(MAX, 0) | apart(0, MIN) | apart(MIN, 0)" + Streets.INDEX, "apart(0, 1) = 0",
                "6 * vendor(0, 60, 1, 0) = 7; setCry(7) = 0; apart(7, 8) | apart(8, 7)" + Streets.INDEX, "apart(7, 0) = 0")
            .hold("Throws `NoSuchElementException` if one has none",
                TWO_VENDORS, "apart(0, 0) | apart(0, 1) | apart(1, 1)" + Streets.NONE, "2 * type(3) = 2; setCry(1) = 0",
                "apart(0, 1) | apart(1, 0) | apart(0, 0)" + Streets.NONE, "apart(1, 1) = 0; setCry(0) = 0; apart(0, 1) = 0",
                "apart(0, 0) = 0");
    }

    private static void aFreeCry() {
        Sentences.of("A cry")
            .hold("A cry is free at a place if no cry",
                "place(0) = 0; freeCry(0) = 0; 2 * vendor(0, 60, 1, 0) = 1; 4 * type(0) = 4; freeCry(0) = 0; setCry(0) = 0",
                "stock(0, 9) = 9; freeCry(0) = 24; setCry(1) = 0; stock(1, 9) = 9; freeCry(0) = 24")
            .hold("of a vendor who is heard there, on the ground",
                "place(0) = 0; place(1) = 1; link(0, 1, 9) = 0; place(0) = 2; vendor(0, 57, 1, 0) = 0; 4 * type(0) = 4",
                "setCry(0) = 0; freeCry(0) = 0; stock(0, 9) = 9; freeCry(0) = 24; strength(0, 1) = 11; freeCry(1) = 24",
                "setWind(1) = 0; strength(0, 1) = 10; freeCry(1) = 24; setWind(2) = 1; strength(0, 1) = 9; freeCry(1) = 0",
                "freeCry(0) = 24; freeCry(2) = 0; setWind(0) = 2; hush(0, true) = false; freeCry(0) = 0; freeCry(1) = 0")
            .hold("of a vendor who is heard there",
                "2 * place(0) = 1; vendor(0, 60, 1, 0) = 0; vendor(0, 60, 1, 1) = 1; stock(0, 9) = 9; stock(1, 9) = 9; 4 * type(9) = 4",
                "setCry(0) = 0; wipe() = 4; 4 * type(0) = 4; setCry(1) = 0; freeCry(0) = 0; freeCry(1) = 24; window(0, 0) = 0",
                "freeCry(0) = 0; freeCry(1) = 24; wipe() = 4; 4 * type(9) = 4; setCry(1) = 4; wipe() = 4; 4 * type(0) = 4",
                "setCry(0) = 4; freeCry(0) = 24; freeCry(1) = 0")
            .hold(", as if others were silent,",
                Streets.LOUD, "vendor(1, 60, 1, 0) = 1; stock(1, 9) = 9; wipe() = 2; 4 * type(0) = 4; setCry(0) = 2",
                "freeCry(0) = 24; setCry(1) = 0; window(0, 0) = 0; hears(0, 0) = false; hears(0, 1) = false; freeCry(0) = 24")
            .hold("is alike.",
                Streets.LOUD, "wipe() = 2; type(0) = 1; type(0) = 2; type(3) = 3; type(2) = 4; setCry(0) = 2; freeCry(0) = 100",
                "wipe() = 4; type(0) = 1; type(0) = 2; type(3) = 3; type(3) = 4; setCry(0) = 4; freeCry(0) = 0; wipe() = 4",
                "5 * type(0) = 5; setCry(0) = 4; freeCry(0) = 2; type(0) = 6; setCry(0) = 5; freeCry(0) = 0; wipe() = 6",
                "3 * type(0) = 3; setCry(0) = 6; freeCry(0) = 20");
    }

    private static void theFirstFreeCry() {
        Sentences.of("A cry")
            .hold("The free cry is the first one of 4 tones of 0 to 4 each, as numbers, that is so",
                "place(0) = 0; freeCry(0) = 0; 8 * vendor(0, 60, 1, 0) = 7; stock(0, 1) = 1; stock(1, 1) = 1; stock(2, 1) = 1",
                "stock(3, 1) = 1; stock(4, 1) = 1; stock(5, 1) = 1; stock(6, 1) = 1; stock(7, 1) = 1; type(0) = 1; type(2) = 2",
                "type(3) = 3; type(3) = 4; setCry(0) = 0; wipe() = 4; type(2) = 1; type(2) = 2; type(1) = 3; type(1) = 4",
                "setCry(1) = 0; wipe() = 4; type(1) = 1; type(0) = 2; type(4) = 3; type(0) = 4; setCry(2) = 0; wipe() = 4",
                "type(1) = 1; type(4) = 2; type(0) = 3; type(2) = 4; setCry(3) = 0; wipe() = 4; type(4) = 1; type(0) = 2",
                "type(1) = 3; type(4) = 4; setCry(4) = 0; wipe() = 4; type(1) = 1; type(0) = 2; type(2) = 3; type(1) = 4",
                "setCry(5) = 0; wipe() = 4; type(3) = 1; type(1) = 2; type(3) = 3; type(3) = 4; setCry(6) = 0; wipe() = 4",
                "type(2) = 1; type(3) = 2; type(4) = 3; type(0) = 4; setCry(7) = 0; freeCry(0) = 4444; wipe() = 4; 4 * type(4) = 4",
                "setCry(0) = 4; freeCry(0) = 104")
            .hold(", by vendors and places of the hour of now.",
                Streets.LOUD, "2 * place(0) = 2; link(0, 1, 9) = 0; link(1, 2, 9) = 0; goTo(0, 7, 1) = 0; wipe() = 2",
                "4 * type(0) = 4; setCry(0) = 2; freeCry(0) = 24; freeCry(1) = 24; freeCry(2) = 0; pass(1) = 1; freeCry(2) = 24",
                "setWind(9) = 0; freeCry(2) = 0; freeCry(0) = 0; freeCry(1) = 24; hush(0, true) = false; freeCry(1) = 0",
                "hush(0, false) = true; pass(14) = 15; freeCry(0) = 24");
    }

    private static void freeCry() {
        Sentences.of("promise 39")
            .hold("Returns the free cry at a place.",
                Streets.LOUD, "place(0) = 1; freeCry(0) = 0; wipe() = 2; 4 * type(0) = 4; setCry(0) = 2; freeCry(0) = 24",
                "freeCry(1) = 0; link(0, 1, 9) = 0; freeCry(1) = 24; wipe() = 4; 4 * type(9) = 4; setCry(0) = 4; freeCry(0) = 0",
                "freeCry(1) = 0")
            .hold("Returns its tones as digits of a number, the first one the highest.",
                Streets.LOUD, "wipe() = 2; 4 * type(0) = 4; setCry(0) = 2; freeCry(0) = 24; vendor(0, 60, 1, 0) = 1",
                "stock(1, 9) = 9; wipe() = 4; type(0) = 1; type(0) = 2; type(4) = 3; type(4) = 4; setCry(1) = 0; freeCry(0) = 204")
            .hold("Throws `IndexOutOfBoundsException` if there is no such place",
                "freeCry(0)" + Streets.INDEX, "place(0) = 0",
                "freeCry(-1) | freeCry(1) | freeCry(MIN) | freeCry(MAX)" + Streets.INDEX, "freeCry(0) = 0; 9 * place(0) = 9",
                "freeCry(10)" + Streets.INDEX, "freeCry(9) = 0")
            .hold("Throws `NoSuchElementException` if there is none",
                "place(0) = 0; 7 * vendor(0, 60, 1, 0) = 6; stock(0, 1) = 1; stock(1, 1) = 1; stock(2, 1) = 1; stock(3, 1) = 1",
                "stock(4, 1) = 1; stock(5, 1) = 1; 4 * type(2) = 4; setCry(0) = 0; wipe() = 4; type(0) = 1; type(0) = 2",
                "type(2) = 3; type(2) = 4; setCry(1) = 0; wipe() = 4; type(0) = 1; type(4) = 2; type(2) = 3; type(2) = 4",
                "setCry(2) = 0; wipe() = 4; type(4) = 1; type(0) = 2; type(2) = 3; type(2) = 4; setCry(3) = 0; wipe() = 4",
                "type(4) = 1; type(4) = 2; type(2) = 3; type(2) = 4; setCry(4) = 0; wipe() = 4; type(2) = 1; type(2) = 2",
                "type(0) = 3; type(2) = 4; setCry(5) = 0; wipe() = 4; type(2) = 1; type(2) = 2; type(4) = 3; type(2) = 4",
                "setCry(6) = 0; freeCry(0) = 240; stock(6, 1) = 1; freeCry(0)" + Streets.NONE, "place(0) = 1; freeCry(1) = 0",
                "hush(1, true) = false; freeCry(0) = 0; hush(1, false) = true; freeCry(0)" + Streets.NONE);
    }
}
