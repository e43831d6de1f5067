/** What the document says of permits, and promises 31 to 33. */
final class LawSentences {
    private static final String VENDOR = "place(0) = 0; vendor(0, 50, 8, 0) = 0";

    private LawSentences() {
    }

    static void hold() {
        permits();
        setLimit();
        permit();
        permitRefused();
        raid();
    }

    private static void permits() {
        Sentences.of("Permits")
            .hold("A vendor can have permits, at most 6",
                VENDOR, "vendor(0, 50, 8, 0) = 1; raid(0) = 2; 5 * permit(0, 0, 20, 20) = 5; raid(0) = 2; permit(0, 0, 6, 6) = 6",
                "raid(0) = 1; permit(0, 0, 6, 6)" + Streets.STATE, "5 * permit(1, 0, 20, 20) = 5; permit(1, 0, 6, 6) = 6",
                "raid(0) = 0; permit(1, 0, 6, 6)" + Streets.STATE)
            .hold("each for a place, from an hour on up to another one",
                "3 * place(0) = 2; link(0, 1, 1) = 0; link(1, 2, 1) = 0; vendor(0, 50, 8, 0) = 0; goTo(0, 7, 1) = 0; goTo(0, 8, 2) = 1",
                "permit(0, 0, 6, 6) = 1; permit(0, 2, 8, 8) = 2; permit(0, 1, 7, 7) = 3; raid(0) = 0; pass(1) = 1; raid(1) = 0",
                "pass(1) = 2; raid(2) = 0; pass(1) = 3; raid(2) = 1; permit(0, 0, 6, 20) = 4; permit(0, 1, 6, 20) = 5; raid(2) = 1",
                "permit(0, 2, 9, 20) = 6; raid(2) = 0; of(0, 'f') = 60")
            .hold("each for a place",
                "3 * place(0) = 2; vendor(0, 50, 8, 1) = 0; permit(0, 0, 6, 20) = 1; permit(0, 2, 6, 20) = 2; raid(1) = 1",
                "permit(0, 1, 6, 20) = 3; raid(1) = 0; of(0, 'f') = 30")
            .hold(", from an hour on up to another one, both included.",
                VENDOR, "vendor(0, 50, 8, 0) = 1; permit(0, 0, 8, 10) = 1; permit(1, 0, 20, 20) = 1; permit(1, 0, 6, 6) = 2",
                "raid(0) = 1; pass(1) = 1; raid(0) = 2; pass(1) = 2; raid(0) = 1; pass(1) = 3; raid(0) = 1; pass(1) = 4",
                "raid(0) = 1; pass(1) = 5; raid(0) = 2; pass(8) = 13; raid(0) = 2; pass(1) = 14; raid(0) = 1; pass(1) = 15",
                "raid(0) = 1; pass(2) = 17; raid(0) = 1; of(0, 'f') = 180; of(1, 'f') = 210")
            .hold("In a raid at a place each vendor who is there",
                "3 * place(0) = 2; link(0, 1, 1) = 0; 8 * vendor(0, 50, 8, 0) = 7; goTo(7, 7, 1) = 0; goTo(0, 7, 1) = 0",
                "raid(0) = 8; raid(1) = 0; of(0, 'f') = 30; of(7, 'f') = 30; pass(1) = 1; raid(0) = 6; raid(1) = 2; raid(2) = 0",
                "of(0, 'f') = 60; of(3, 'f') = 60; of(7, 'f') = 60; raid(1) = 2; of(0, 'f') = 90; of(3, 'f') = 60")
            .hold("without one for it that holds in the hour of now is fined 30.",
                VENDOR, "permit(0, 0, 7, 7) = 1; raid(0) = 1; of(0, 'f') = 30; raid(0) = 1; of(0, 'f') = 60; pass(1) = 1",
                "raid(0) = 0; of(0, 'f') = 60; pass(1) = 2; raid(0) = 1; of(0, 'f') = 90; pass(14) = 16; hour() = 7; raid(0) = 0",
                "of(0, 'f') = 90");
    }

    private static void setLimit() {
        Sentences.of("promise 31")
            .hold("Sets the limit of an hour.",
                Streets.CRIER, "setLimit(7, 0) = 99; pass(1) = 1; of(0, 'f') = 0; pass(1) = 2; of(0, 'f') = 5; pass(1) = 3",
                "of(0, 'f') = 5; pass(14) = 17; of(0, 'f') = 10")
            .hold("- `hour`: 6 to 20",
                Streets.CRIER, "setLimit(6, 0) = 99; setLimit(20, 0) = 99; pass(1) = 1; of(0, 'f') = 5; pass(13) = 14",
                "of(0, 'f') = 5; pass(1) = 15; of(0, 'f') = 10; pass(1) = 16; of(0, 'f') = 15; pass(1) = 17; of(0, 'f') = 15")
            .hold("- `limit`: 0 to 99",
                "place(0) = 0; setWind(9) = 0; 2 * vendor(0, 10, 8, 0) = 1; 2 * type(1) = 2; setCry(0) = 0; stock(0, 9) = 9",
                "strength(0, 0) = 1; setLimit(6, 0) = 99; setLimit(7, 1) = 99; pass(1) = 1; of(0, 'f') = 5; pass(1) = 2",
                "of(0, 'f') = 5; place(1) = 1; vendor(0, 10, 8, 1) = 2; setCry(2) = 0; stock(2, 9) = 9; strength(2, 1) = 0",
                "setLimit(8, 0) = 99; pass(1) = 3; of(2, 'f') = 0; of(2, 't') = 3; setLimit(9, 99) = 99; setLimit(9, 98) = 99",
                "setLimit(9, 0) = 98; setLimit(9, 1) = 0")
            .hold("Returns the one before.",
                "setLimit(13, 5) = 99; setLimit(13, 5) = 5; setLimit(13, 0) = 5; setLimit(12, 7) = 99; setLimit(14, 8) = 99",
                "setLimit(13, 99) = 0; setLimit(13, 6) = 99; pass(60) = 60; setLimit(13, 0) = 6; setLimit(12, 0) = 7")
            .hold("Throws `IllegalArgumentException` if a number is out of range",
                "setLimit(5, 1) | setLimit(21, 1) | setLimit(0, 1) | setLimit(-1, 1) | setLimit(MIN, 1)"
                    + " | setLimit(MAX, 1)" + Streets.ARGUMENT,
                "setLimit(6, -1) | setLimit(6, 100) | setLimit(6, MIN) | setLimit(6, MAX) | setLimit(20, -1)"
                    + " | setLimit(20, 100)" + Streets.ARGUMENT,
                "setLimit(6, 0) = 99; setLimit(20, 99) = 99; setLimit(6, -1)" + Streets.ARGUMENT, "setLimit(6, 99) = 0");
    }

    private static void permit() {
        Sentences.of("promise 32")
            .hold("Gives a vendor a permit.",
                VENDOR, "vendor(0, 50, 8, 0) = 1; raid(0) = 2; permit(1, 0, 6, 20) = 1; raid(0) = 1; of(0, 'f') = 60",
                "of(1, 'f') = 30")
            .hold("- `from`: 6 to 20",
                VENDOR, "permit(0, 0, 6, 6) = 1; permit(0, 0, 20, 20) = 2; raid(0) = 0; pass(1) = 1; raid(0) = 1; pass(12) = 13",
                "raid(0) = 1; pass(1) = 14; raid(0) = 0; pass(1) = 15; raid(0) = 0")
            .hold("- `to`: from that hour to 20",
                VENDOR, "permit(0, 0, 19, 20) = 1; permit(0, 0, 7, 7) = 2; raid(0) = 1; pass(1) = 1; raid(0) = 0; pass(1) = 2",
                "raid(0) = 1; pass(10) = 12; raid(0) = 1; pass(1) = 13; raid(0) = 0; pass(1) = 14; raid(0) = 0; pass(1) = 15",
                "raid(0) = 1")
            .hold("Returns how many the vendor has.",
                VENDOR, "vendor(0, 50, 8, 0) = 1; permit(0, 0, 6, 6) = 1; permit(1, 0, 6, 6) = 1; permit(0, 0, 6, 6) = 2",
                "permit(0, 0, 6, 6) = 3; permit(0, 0, 6, 6) = 4; permit(0, 0, 6, 6) = 5; permit(0, 0, 6, 6) = 6",
                "permit(1, 0, 6, 6) = 2");
    }

    private static void permitRefused() {
        Sentences.of("promise 32")
            .hold("Throws `IndexOutOfBoundsException` if there is no such vendor or place",
                "place(0) = 0; permit(0, 0, 6, 6)" + Streets.INDEX, "vendor(0, 50, 8, 0) = 0",
                "permit(1, 0, 6, 6) | permit(-1, 0, 6, 6) | permit(MIN, 0, 6, 6) | permit(MAX, 0, 6, 6) | permit(0, 1, 6, 6)"
                    + " | permit(0, -1, 6, 6) | permit(0, MIN, 6, 6) | permit(0, MAX, 6, 6)" + Streets.INDEX,
                "9 * place(0) = 9; 7 * vendor(0, 50, 8, 9) = 7; permit(8, 9, 6, 6) | permit(7, 10, 6, 6)" + Streets.INDEX,
                "permit(7, 9, 6, 6) = 1; raid(9) = 6")
            .hold("Throws `IllegalArgumentException` if a number is out of range",
                VENDOR,
                "permit(0, 0, 5, 20) | permit(0, 0, 21, 21) | permit(0, 0, 21, 20) | permit(0, 0, 5, 5)"
                    + " | permit(0, 0, MIN, 20) | permit(0, 0, MAX, MAX)" + Streets.ARGUMENT,
                "permit(0, 0, 6, 21) | permit(0, 0, 7, 6) | permit(0, 0, 20, 19) | permit(0, 0, 6, 5) | permit(0, 0, 6, MIN)"
                    + " | permit(0, 0, 6, MAX)" + Streets.ARGUMENT,
                "raid(0) = 1; permit(0, 0, 6, 6) = 1; permit(0, 0, 20, 20) = 2; permit(0, 0, 6, 20) = 3")
            .hold("Throws `IllegalStateException` if the vendor has 6",
                VENDOR, "vendor(0, 50, 8, 0) = 1; place(0) = 1; 5 * permit(0, 0, 7, 7) = 5; permit(0, 0, 9, 10) = 6",
                "permit(0, 1, 9, 10) | permit(0, 0, 6, 10) | permit(0, 0, 9, 9) | permit(0, 0, 6, 6)" + Streets.STATE,
                "raid(0) = 2; permit(1, 0, 6, 20) = 1; raid(0) = 1; pass(4) = 4; raid(0) = 0");
    }

    private static void raid() {
        Sentences.of("promise 33")
            .hold("Raids a place.",
                "2 * place(0) = 1; vendor(0, 50, 8, 0) = 0; vendor(0, 50, 8, 1) = 1; raid(1) = 1; of(0, 'f') = 0; of(1, 'f') = 30",
                "isSilent(1) = true")
            .hold("Returns how many are fined.",
                "2 * place(0) = 1; raid(0) = 0; 8 * vendor(0, 50, 8, 0) = 7; raid(0) = 8; raid(1) = 0; permit(3, 0, 6, 20) = 1",
                "raid(0) = 7; of(3, 'f') = 30; of(0, 'f') = 60; of(7, 'f') = 60; hush(1, true) = false; raid(0) = 7")
            .hold("Throws `IndexOutOfBoundsException` if there is no such place",
                "raid(0)" + Streets.INDEX, VENDOR, "raid(1) | raid(-1) | raid(MIN) | raid(MAX)" + Streets.INDEX, "of(0, 'f') = 0",
                "9 * place(0) = 9; raid(10)" + Streets.INDEX, "raid(9) = 0; raid(0) = 1");
    }
}
