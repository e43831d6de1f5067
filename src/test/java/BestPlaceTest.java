/** Promise 40: bestPlace. */
public final class BestPlaceTest {
    private static final String ROW =
        "3 * place(0) = 2; link(0, 1, 9) = 0; link(1, 2, 9) = 0; vendor(0, 50, 8, 0) = 0";

    public static void main(String[] args) {
        mostWindows();
        whichWindowsCount();
        Script.run("promise 40: wrong inputs",
            "bestPlace(0) = throws.IndexOutOfBoundsException; place(0) = 0; bestPlace(0) = throws.IndexOutOfBoundsException",
            "vendor(0, 50, 8, 0) = 0; bestPlace(0) = 0; bestPlace(1) = throws.IndexOutOfBoundsException",
            "bestPlace(-1) = throws.IndexOutOfBoundsException");
        Script.finish("BestPlaceTest");
    }

    private static void mostWindows() {
        Script.run("promise 40: at most windows, of like ones the lowest", ROW,
            "bestPlace(0) = 0; window(2, 0) = 0; bestPlace(0) = 0; want(0, 0, 127, 6, 20, 9) = 1; bestPlace(0) = 2; window(0, 0) = 1",
            "want(1, 0, 127, 6, 20, 9) = 1; bestPlace(0) = 0; window(2, 0) = 2; want(2, 0, 127, 6, 20, 9) = 1; bestPlace(0) = 2",
            "vendor(0, 60, 8, 0) = 1; bestPlace(1) = 1; window(1, 0) = 3; want(3, 0, 127, 6, 20, 9) = 1; setWind(5) = 0; bestPlace(1) = 1",
            "setWind(6) = 5; bestPlace(1) = 2");
        Script.run("promise 40: a window counts once, however many wants", ROW,
            "window(1, 0) = 0; 4 * want(0, 0, 127, 6, 20, 9) = 4; 2 * window(2, 0) = 2; want(1, 0, 127, 6, 20, 9) = 1",
            "bestPlace(0) = 1; want(2, 0, 127, 6, 20, 9) = 1; bestPlace(0) = 2");
        Script.run("promise 40: the noise at the window, its floor, and how far the place is from it",
            "place(0) = 0; place(9) = 1; link(0, 1, 2) = 0; vendor(0, 20, 8, 0) = 0; window(1, 0) = 0; want(0, 0, 127, 6, 20, 9) = 1",
            "bestPlace(0) = 1; window(0, 5) = 1; want(1, 0, 127, 6, 20, 9) = 1; bestPlace(0) = 0; setWind(1) = 0; bestPlace(0) = 1",
            "setWind(2) = 1; bestPlace(0) = 0; window(1, 1) = 2; want(2, 0, 127, 6, 20, 9) = 1; setWind(0) = 2; bestPlace(0) = 0");
        Script.run("promise 40: however far, and without a way; a silent vendor, too; whatever blurs",
            "2 * place(0) = 1; vendor(0, 50, 8, 0) = 0; window(1, 0) = 0; want(0, 0, 127, 6, 20, 9) = 1; isSilent(0) = true",
            "bestPlace(0) = 1; link(0, 1, 8) = 0; bestPlace(0) = 0; vendor(0, 60, 8, 1) = 1; 2 * type(1) = 2; setCry(0) = 0",
            "setCry(1) = 0; stock(0, 9) = 9; stock(1, 9) = 9; hears(0, 0) = false; bestPlace(0) = 0; link(0, 1, 9) = 8; bestPlace(0) = 1");
        Script.run("promise 40: the voice as tired as it is now, and noon",
            "2 * place(0) = 1; link(0, 1, 7) = 0; vendor(0, 45, 8, 0) = 0; 2 * type(1) = 2; setCry(0) = 0; stock(0, 9) = 9",
            "window(1, 0) = 0; want(0, 0, 127, 6, 20, 9) = 1; bestPlace(0) = 0; pass(1) = 1; bestPlace(0) = 0; pass(1) = 2; bestPlace(0) = 1",
            "vendor(0, 47, 8, 0) = 1; bestPlace(1) = 0; pass(3) = 5; hour() = 11; bestPlace(1) = 1; pass(3) = 8; bestPlace(1) = 0");
    }

    private static void whichWindowsCount() {
        Script.run("promise 40: of the ware, and paid enough", ROW,
            "window(2, 0) = 0; want(0, 1, 127, 6, 20, 99) = 1; bestPlace(0) = 0; want(0, 0, 127, 6, 20, 7) = 2; bestPlace(0) = 0",
            "setPrice(0, 7) = 8; bestPlace(0) = 2; setPrice(0, 8) = 7; bestPlace(0) = 0");
        Script.run("promise 40: in this hour, on this weekday", ROW,
            "window(2, 0) = 0; want(0, 0, 2, 8, 9, 9) = 1; pass(2) = 2; bestPlace(0) = 0; pass(14) = 16; bestPlace(0) = 0; pass(1) = 17",
            "bestPlace(0) = 2; pass(1) = 18; bestPlace(0) = 2; pass(1) = 19; bestPlace(0) = 0");
        Script.run("promise 40: not fulfilled on this day, whatever is owed",
            "3 * place(0) = 2; link(0, 1, 9) = 0; link(1, 2, 9) = 0; vendor(0, 50, 99, 2) = 0; 2 * type(1) = 2; setCry(0) = 0",
            "stock(0, 9) = 9; window(2, 0) = 0; want(0, 0, 127, 6, 20, 99) = 1; bestPlace(0) = 2; pass(1) = 1; fulfilled(0) = 1",
            "bestPlace(0) = 0; pass(14) = 15; bestPlace(0) = 2; want(0, 0, 127, 6, 20, 99) = 2; pass(1) = 16; owes(0, 0) = 198",
            "fulfilled(0) = 1; bestPlace(0) = 2");
    }
}
