/** The three examples at the end of "Terms". */
public final class ExamplesTest {
    public static void main(String[] args) {
        Script.run("first example",
            "place(1) = 0; place(0) = 1; link(0, 1, 2) = 0; vendor(0, 50, 8, 0) = 0; type(1) = 1; type(3) = 2",
            "setCry(0) = 0; stock(0, 9) = 9; strength(0, 1) = 40; window(1, 1) = 0; hears(0, 0) = true",
            "want(0, 0, 127, 6, 20, 10) = 1; pass(1) = 1; sales() = 1; owes(0, 0) = 8; of(0, 's') = 8",
            "of(0, 't') = 3");
        Script.run("second example",
            "place(0) = 0; vendor(0, 50, 8, 0) = 0; vendor(1, 50, 8, 0) = 1; type(1) = 1; type(3) = 2; type(5) = 3",
            "setCry(0) = 0; type(1) = 4; setCry(1) = 0; apart(0, 1) = 4; stock(0, 1) = 1; window(0, 0) = 0",
            "hears(0, 0) = true; stock(1, 1) = 1; hears(0, 0) = false");
        Script.run("third example",
            "place(0) = 0; place(0) = 1; link(0, 1, 9) = 0; vendor(0, 50, 8, 0) = 0; goTo(0, 9, 1) = 0",
            "at(0, 8) = 0; at(0, 9) = 1; raid(0) = 1; of(0, 'f') = 30; permit(0, 0, 6, 8) = 1; raid(0) = 0");
        Script.finish("ExamplesTest");
    }
}
