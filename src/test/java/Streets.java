/** Beginnings of scripts. */
final class Streets {
    /** One vendor who is not silent, of ware 0, loudness 50 and price 8, and 99 pieces. */
    static final String CRIER =
        "place(0) = 0; vendor(0, 50, 8, 0) = 0; type(1) = 1; type(3) = 2; setCry(0) = 0; stock(0, 99) = 99";

    /** Two of them, of cries that are not alike. */
    static final String TWO_CRIERS = CRIER
        + "; vendor(0, 50, 8, 0) = 1; wipe() = 2; type(8) = 1; type(9) = 2; setCry(1) = 0; stock(1, 99) = 99";

    /** One who is as loud as a vendor can be. */
    static final String LOUD = "place(0) = 0; vendor(0, 60, 1, 0) = 0; 2 * type(1) = 2; setCry(0) = 0; stock(0, 99) = 99";

    /** A window at the place of the vendor with a want that holds always, for 9 at most. */
    static final String BUYER = "window(0, 0) = 0; want(0, 0, 127, 6, 20, 9) = 1";

    /** Three places in a row, 12 from the first one to the last one, and a vendor at the first one. */
    static final String ROW = "3 * place(0) = 2; link(0, 1, 6) = 0; link(1, 2, 6) = 0; vendor(0, 50, 8, 0) = 0";

    /** What a call that throws is to throw. */
    static final String INDEX = " = throws.IndexOutOfBoundsException";
    static final String ARGUMENT = " = throws.IllegalArgumentException";
    static final String STATE = " = throws.IllegalStateException";
    static final String UNSUPPORTED = " = throws.UnsupportedOperationException";
    static final String NONE = " = throws.NoSuchElementException";
    static final String ARITHMETIC = " = throws.ArithmeticException";

    private Streets() {
    }
}
