/** What the document says of the street, of hours and the wind, and promises 1 to 5. */
final class StreetSentences {
    private StreetSentences() {
    }

    static void hold() {
        anObject();
        street();
        hours();
        weekdays();
        aNewObject();
        place();
        link();
        far();
        setWind();
    }

    private static void anObject() {
        Sentences.of("An object")
            .hold("An object is used for at most 512 calls after it has been made; what later calls answer is free.",
                Streets.CRIER, Streets.BUYER, "501 * setWind(0) = 0; pass(60) = 60; sales() = 4",
                "checksum() = " + Sums.fold(95, 60, 0, 32, 32, 4, 4, 6));
    }

    private static void street() {
        Sentences.of("Street")
            .hold("At most 10 places are numbered from 0",
                "place(0) = 0; far(0, 0) = 0; far(1, 1)" + Streets.INDEX, "place(0) = 1; 8 * place(0) = 9; far(9, 9) = 0",
                "place(0)" + Streets.STATE, "far(10, 10) | far(-1, -1)" + Streets.INDEX)
            .hold("each with a noise of 0 to 9",
                "place(0) = 0; place(9) = 1; place(-1) | place(10)" + Streets.ARGUMENT, "place(5) = 2; vendor(0, 50, 1, 0) = 0",
                "vendor(0, 50, 1, 1) = 1; vendor(0, 50, 1, 2) = 2; strength(0, 0) = 50; strength(1, 1) = 41; strength(2, 2) = 45")
            .hold("Two places can be linked by a length of 1 to 9",
                "3 * place(0) = 2; link(0, 1, 0) | link(0, 1, 10)" + Streets.ARGUMENT, "far(0, 1)" + Streets.NONE,
                "link(0, 1, 1) = 0; link(1, 2, 9) = 0; far(0, 1) = 1; far(1, 2) = 9")
            .hold("both ways",
                "3 * place(0) = 2; link(0, 1, 4) = 0; far(1, 0) = 4; far(0, 1) = 4; link(1, 0, 9) = 4; far(0, 1) = 9",
                "far(1, 0) = 9; link(2, 1, 5) = 0; far(1, 2) = 5; far(0, 2) = 14; far(2, 0) = 14; link(1, 2, 5) = 5")
            .hold("Two places are so far from each other as the lengths of the shortest way are together",
                "4 * place(0) = 3; link(0, 1, 9) = 0; link(0, 2, 4) = 0; link(2, 1, 5) = 0; far(0, 1) = 9; link(2, 1, 4) = 5",
                "far(0, 1) = 8; link(2, 1, 6) = 4; far(0, 1) = 9; link(2, 3, 1) = 0; link(3, 1, 1) = 0; far(0, 1) = 6",
                "far(2, 1) = 2; link(3, 1, 9) = 1; far(0, 1) = 9; far(2, 1) = 6; far(0, 3) = 5")
            .hold("0 with itself",
                "place(9) = 0; far(0, 0) = 0; place(0) = 1; far(1, 1) = 0; link(0, 1, 1) = 0; far(0, 0) = 0; far(1, 1) = 0");
        Sentences.of("Street").hold("as the lengths of the shortest way are together, 0 with itself.",
            "10 * place(0) = 9; link(0, 1, 9) = 0; link(1, 2, 9) = 0; link(2, 3, 9) = 0; link(3, 4, 9) = 0; link(4, 5, 9) = 0",
            "link(5, 6, 9) = 0; link(6, 7, 9) = 0; link(7, 8, 9) = 0; link(8, 9, 9) = 0; far(0, 9) = 81; far(9, 0) = 81",
            "far(0, 8) = 72; far(9, 9) = 0; link(0, 9, 9) = 0; far(0, 9) = 9; far(0, 5) = 45; far(0, 6) = 36; far(0, 0) = 0");
    }

    private static void hours() {
        Sentences.of("Hours")
            .hold("The hour is 6 at first",
                "hour() = 6; place(0) = 0; hour() = 6; pass(1) = 1; hour() = 7")
            .hold("up to 20, behind which the next day begins at 6",
                "pass(13) = 13; hour() = 19; day() = 0; pass(1) = 14; hour() = 20; day() = 0; pass(1) = 15; hour() = 6; day() = 1",
                "pass(14) = 29; hour() = 20; day() = 1; pass(1) = 30; hour() = 6; day() = 2; pass(16) = 46; hour() = 7; day() = 3")
            .hold("the day is 0 at first, up to 300",
                "day() = 0; pass(14) = 14; day() = 0; pass(1) = 15; day() = 1; 74 * pass(60) = 4455; pass(44) = 4499; day() = 299",
                "hour() = 20; pass(1) = 4500; day() = 300; hour() = 6; pass(14) = 4514; day() = 300; hour() = 20",
                "pass(1)" + Streets.STATE, "day() = 300; hour() = 20")
            .hold("The wind is 0 to 9",
                "place(0) = 0; vendor(0, 50, 1, 0) = 0; setWind(9) = 0; strength(0, 0) = 41",
                "setWind(-1) | setWind(10)" + Streets.ARGUMENT, "strength(0, 0) = 41; setWind(0) = 9; strength(0, 0) = 50")
            .hold(", 0 at first.",
                "place(0) = 0; vendor(0, 50, 1, 0) = 0; strength(0, 0) = 50; setWind(1) = 0; strength(0, 0) = 49");
    }

    /** Windows 0 to 6 have a want each, for one weekday each, so that the sale's window tells the weekday. */
    private static void weekdays() {
        Sentences.of("Hours")
            .hold("its weekday the rest by 7.",
                Streets.LOUD, "7 * window(0, 0) = 6; want(0, 0, 1, 6, 6, 9) = 1; want(1, 0, 2, 6, 6, 9) = 1",
                "want(2, 0, 4, 6, 6, 9) = 1; want(3, 0, 8, 6, 6, 9) = 1; want(4, 0, 16, 6, 6, 9) = 1; want(5, 0, 32, 6, 6, 9) = 1",
                "want(6, 0, 64, 6, 6, 9) = 1; pass(60) = 60; pass(45) = 105; sales() = 7; sale(0, 'w') = 0; sale(1, 'w') = 1",
                "sale(2, 'w') = 2; sale(3, 'w') = 3; sale(4, 'w') = 4; sale(5, 'w') = 5; sale(6, 'w') = 6; sale(6, 'd') = 6",
                "pass(1) = 106; sales() = 8; sale(7, 'w') = 0; sale(7, 'd') = 7; pass(60) = 166; pass(30) = 196; sales() = 14",
                "sale(13, 'w') = 6; sale(13, 'd') = 13; pass(15) = 211; sale(14, 'w') = 0; sale(14, 'd') = 14");
        Sentences.of("Hours")
            .hold("up to 300, its weekday the rest by 7.",
                Streets.LOUD, "2 * window(0, 0) = 1; want(0, 0, 63, 6, 6, 9) = 1; 75 * pass(60) = 4500; sales() = 99",
                "of(0, 's') = 0; stock(0, 9) = 9; pass(1) = 4501; sales() = 99; want(1, 0, 64, 6, 20, 9) = 1; pass(1) = 4502",
                "sales() = 100; sale(99, 'w') = 1; sale(99, 'd') = 300");
    }

    private static void aNewObject() {
        Sentences.of("promise 1")
            .hold("Creates a street without places",
                "far(0, 0) | freeCry(0) | raid(0) | tape(0) | window(0, 0) | vendor(0, 10, 1, 0) | link(0, 1, 1)" + Streets.INDEX,
                "of(0, 's') | isSilent(0) | fulfilled(0) | length(0) | nearest(0) | bestPlace(0)" + Streets.INDEX, "sales() = 0",
                "wipe() = 0; isSound() = true; place(0) = 0; far(0, 0) = 0")
            .hold(", at the hour 6 of the day 0.",
                "hour() = 6; day() = 0; checksum() = " + Sums.fold(0, 0, 6));
    }

    private static void place() {
        Sentences.of("promise 2")
            .hold("Adds a place.",
                "far(0, 0)" + Streets.INDEX, "place(3) = 0; far(0, 0) = 0; far(1, 1)" + Streets.INDEX, "place(3) = 1",
                "far(1, 1) = 0; far(0, 1)" + Streets.NONE)
            .hold("- `noise`: 0 to 9",
                "place(9) = 0; place(0) = 1; place(8) = 2; place(1) = 3; link(0, 1, 1) = 0; link(0, 2, 1) = 0; link(0, 3, 1) = 0",
                "vendor(0, 50, 1, 0) = 0; strength(0, 0) = 41; strength(0, 1) = 45; strength(0, 2) = 37; strength(0, 3) = 44")
            .hold("Returns its number.",
                "place(0) = 0; place(0) = 1; place(0) = 2; place(0) = 3; place(0) = 4; place(0) = 5; place(0) = 6; place(0) = 7",
                "place(0) = 8; place(0) = 9")
            .hold("Throws `IllegalArgumentException` if a number is out of range",
                "place(-1) | place(10) | place(MIN) | place(MAX)" + Streets.ARGUMENT, "place(0) = 0",
                "place(-1) | place(10) | place(MIN) | place(MAX)" + Streets.ARGUMENT, "place(9) = 1")
            .hold("Throws `IllegalStateException` if there are 10",
                "9 * place(0) = 8; place(0) = 9; vendor(0, 60, 1, 0) = 0; vendor(0, 60, 1, 9) = 1",
                "place(0) | place(9) | place(5)" + Streets.STATE, "strength(0, 0) = 60; strength(1, 9) = 60");
    }

    private static void link() {
        Sentences.of("promise 3")
            .hold("Links two places",
                "3 * place(0) = 2; far(0, 1)" + Streets.NONE, "link(0, 1, 5) = 0; far(0, 1) = 5",
                "far(0, 2) | far(1, 2)" + Streets.NONE, "link(2, 0, 3) = 0; far(2, 1) = 8")
            .hold(", in place of a link that is there.",
                "2 * place(0) = 1; link(0, 1, 1) = 0; link(0, 1, 9) = 1; far(0, 1) = 9; link(1, 0, 2) = 9; far(0, 1) = 2",
                "link(0, 1, 2) = 2")
            .hold("- `other`: another one",
                "10 * place(0) = 9; link(0, 9, 1) = 0; link(9, 8, 1) = 0; far(0, 8) = 2",
                "link(0, 0, 1) | link(9, 9, 9)" + Streets.ARGUMENT)
            .hold("- `metres`: 1 to 9",
                "3 * place(0) = 2; link(0, 1, 1) = 0; link(0, 2, 9) = 0; far(0, 1) = 1; far(0, 2) = 9; far(1, 2) = 10",
                "link(1, 2, 9) = 0; far(1, 2) = 9")
            .hold("Returns the length before",
                "2 * place(0) = 1; link(0, 1, 9) = 0; link(0, 1, 8) = 9; link(1, 0, 1) = 8; link(0, 1, 1) = 1; link(1, 0, 9) = 1")
            .hold(", 0 without a link.",
                "3 * place(0) = 2; link(0, 1, 1) = 0; link(1, 2, 1) = 0; far(0, 2) = 2; link(0, 2, 5) = 0; far(0, 2) = 2",
                "link(2, 0, 6) = 5")
            .hold("Throws `IndexOutOfBoundsException` if there is no such place, for either",
                "link(0, 0, 1) | link(0, 1, 1)" + Streets.INDEX, "place(0) = 0",
                "link(0, 1, 1) | link(1, 0, 1) | link(1, 1, 1)" + Streets.INDEX, "place(0) = 1",
                "link(0, 2, 1) | link(2, 0, 1) | link(0, -1, 1) | link(-1, 0, 1)" + Streets.INDEX,
                "link(0, MAX, 1) | link(MAX, 0, 1) | link(0, MIN, 1) | link(MIN, 0, 1) | link(9, 1, 1)"
                    + " | link(1, 10, 1)" + Streets.INDEX,
                "link(0, 1, 1) = 0; 8 * place(0) = 9; link(9, 10, 1) | link(10, 9, 1)" + Streets.INDEX, "link(9, 0, 1) = 0")
            .hold("Throws `IllegalArgumentException` if both are the same, or it is out of range",
                "2 * place(0) = 1; link(0, 0, 1) | link(1, 1, 9) | link(0, 0, 0)" + Streets.ARGUMENT,
                "link(0, 1, 0) | link(0, 1, 10) | link(0, 1, -1) | link(0, 1, MIN) | link(0, 1, MAX)" + Streets.ARGUMENT,
                "far(0, 1)" + Streets.NONE, "link(0, 1, 9) = 0; link(1, 0, 0) | link(1, 0, 10)" + Streets.ARGUMENT,
                "link(0, 1, 1) = 9");
    }

    private static void far() {
        Sentences.of("promise 4")
            .hold("Returns how far two places are from each other.",
                "3 * place(0) = 2; link(0, 1, 2) = 0; far(0, 1) = 2; far(1, 0) = 2; link(1, 2, 9) = 0; far(2, 0) = 11")
            .hold("- `other`: another one, or the same",
                "10 * place(0) = 9; far(9, 9) = 0; far(0, 0) = 0; link(9, 0, 1) = 0; far(9, 0) = 1; far(0, 9) = 1; far(9, 9) = 0")
            .hold("Returns how far.",
                "4 * place(0) = 3; link(3, 2, 1) = 0; link(2, 1, 1) = 0; link(1, 0, 1) = 0; far(3, 0) = 3; far(0, 3) = 3",
                "far(0, 2) = 2; far(1, 3) = 2")
            .hold("Throws `IndexOutOfBoundsException` if there is no such place, for either",
                "far(0, 0)" + Streets.INDEX, "2 * place(0) = 1; link(0, 1, 1) = 0",
                "far(0, 2) | far(2, 0) | far(2, 2) | far(0, -1) | far(-1, 0)" + Streets.INDEX,
                "far(0, MAX) | far(MAX, 0) | far(0, MIN) | far(MIN, 0)" + Streets.INDEX, "far(0, 1) = 1; 8 * place(0) = 9",
                "far(9, 10) | far(10, 9)" + Streets.INDEX, "far(9, 9) = 0")
            .hold("Throws `NoSuchElementException` if there is no way",
                "4 * place(0) = 3; far(0, 1) | far(1, 0) | far(0, 3)" + Streets.NONE, "link(0, 1, 1) = 0; link(2, 3, 1) = 0",
                "far(0, 1) = 1; far(0, 2) | far(2, 0) | far(1, 3) | far(3, 1)" + Streets.NONE, "link(1, 2, 1) = 0; far(0, 3) = 3",
                "far(3, 0) = 3");
    }

    private static void setWind() {
        Sentences.of("promise 5")
            .hold("Sets the wind.",
                "place(0) = 0; vendor(0, 50, 1, 0) = 0; setWind(3) = 0; strength(0, 0) = 47; setWind(7) = 3; strength(0, 0) = 43")
            .hold("- `wind`: 0 to 9",
                "setWind(9) = 0; setWind(0) = 9; setWind(0) = 0; setWind(1) = 0; setWind(8) = 1; setWind(9) = 8; setWind(9) = 9")
            .hold("Returns the one before.",
                "setWind(5) = 0; setWind(5) = 5; setWind(4) = 5; pass(60) = 60; setWind(0) = 4")
            .hold("Throws `IllegalArgumentException` if a number is out of range",
                "setWind(-1) | setWind(10) | setWind(MIN) | setWind(MAX)" + Streets.ARGUMENT, "setWind(9) = 0",
                "setWind(-1) | setWind(10)" + Streets.ARGUMENT, "setWind(0) = 9");
    }
}
