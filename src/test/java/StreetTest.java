/** Promises 1 to 5: a new object, place, link, far, setWind. */
public final class StreetTest {
    public static void main(String[] args) {
        aNewObject();
        place();
        link();
        far();
        setWind();
        Script.finish("StreetTest");
    }

    private static void aNewObject() {
        Script.run("promise 1: nothing is there yet",
            "hour() = 6; day() = 0; sales() = 0; checksum() = 208543; isSound() = true; wipe() = 0",
            "far(0, 0) = throws.IndexOutOfBoundsException; of(0, 's') = throws.IndexOutOfBoundsException",
            "fulfilled(0) = throws.IndexOutOfBoundsException; length(0) = throws.IndexOutOfBoundsException",
            "setWind(0) = 0; setLimit(6, 99) = 99; setLimit(20, 99) = 99; place(0) = 0; link(0, 0, 1) = throws.IllegalArgumentException");
    }

    private static void place() {
        Script.run("promise 2: numbers, ranges, room",
            "place(-1) = throws.IllegalArgumentException; place(10) = throws.IllegalArgumentException",
            "place(2147483647) = throws.IllegalArgumentException; place(-2147483648) = throws.IllegalArgumentException",
            "place(0) = 0; place(9) = 1; place(5) = 2; 6 * place(1) = 8; far(9, 9) = throws.IndexOutOfBoundsException",
            "place(1) = 9; far(9, 9) = 0; place(1) = throws.IllegalStateException",
            "place(10) = throws.IllegalArgumentException; far(10, 10) = throws.IndexOutOfBoundsException");
        Script.run("promise 2: the noise is that of the place",
            "place(4) = 0; place(9) = 1; place(0) = 2; link(0, 1, 1) = 0; link(0, 2, 1) = 0; vendor(0, 50, 1, 0) = 0",
            "strength(0, 0) = 46; strength(0, 1) = 36; strength(0, 2) = 45");
    }

    private static void link() {
        Script.run("promise 3: the length before, both ways, longer and shorter",
            "3 * place(0) = 2; link(0, 1, 9) = 0; link(1, 0, 1) = 9; far(0, 1) = 1; far(1, 0) = 1",
            "link(0, 1, 7) = 1; far(1, 0) = 7; link(0, 1, 7) = 7; link(0, 2, 3) = 0; link(2, 1, 2) = 0",
            "far(0, 1) = 5; link(1, 0, 4) = 7; far(0, 1) = 4");
        Script.run("promise 3: wrong inputs",
            "2 * place(0) = 1; link(0, 1, 0) = throws.IllegalArgumentException",
            "link(0, 1, 10) = throws.IllegalArgumentException; link(0, 1, -1) = throws.IllegalArgumentException",
            "link(0, 0, 1) = throws.IllegalArgumentException; link(1, 1, 10) = throws.IllegalArgumentException",
            "link(0, 2, 1) = throws.IndexOutOfBoundsException; link(2, 0, 1) = throws.IndexOutOfBoundsException",
            "link(-1, 0, 1) = throws.IndexOutOfBoundsException; link(0, -1, 1) = throws.IndexOutOfBoundsException",
            "link(2, 2, 1) = throws.IndexOutOfBoundsException; link(0, 2, 0) = throws.IndexOutOfBoundsException",
            "link(2, 1, 10) = throws.IndexOutOfBoundsException; far(0, 1) = throws.NoSuchElementException",
            "link(0, 1, 9) = 0; link(0, 1, 10) = throws.IllegalArgumentException; link(0, 1, 9) = 9");
    }

    private static void far() {
        Script.run("promise 4: the shortest way",
            "4 * place(0) = 3; far(2, 2) = 0; far(0, 3) = throws.NoSuchElementException; link(0, 1, 9) = 0",
            "link(0, 2, 2) = 0; link(2, 1, 3) = 0; far(0, 1) = 5; far(1, 0) = 5; link(1, 3, 4) = 0; far(3, 0) = 9",
            "link(2, 1, 9) = 3; far(0, 1) = 9; far(0, 3) = 13; far(2, 3) = 13; far(1, 1) = 0");
        Script.run("promise 4: over the first place, and over the last one",
            "4 * place(0) = 3; link(0, 1, 2) = 0; link(0, 2, 3) = 0; far(1, 2) = 5; link(1, 3, 1) = 0; link(2, 3, 1) = 0; far(1, 2) = 2");
        Script.run("promise 4: as far as it can be",
            "10 * place(0) = 9; link(8, 9, 9) = 0; link(6, 7, 9) = 0; link(4, 5, 9) = 0; link(2, 3, 9) = 0",
            "link(0, 1, 9) = 0; link(1, 2, 9) = 0; link(3, 4, 9) = 0; link(5, 6, 9) = 0",
            "far(0, 9) = throws.NoSuchElementException; link(7, 8, 9) = 0; far(0, 9) = 81; far(9, 0) = 81; far(3, 9) = 54");
        Script.run("promise 4: wrong inputs",
            "2 * place(0) = 1; far(0, 2) = throws.IndexOutOfBoundsException; far(2, 0) = throws.IndexOutOfBoundsException",
            "far(-1, 0) = throws.IndexOutOfBoundsException; far(0, -1) = throws.IndexOutOfBoundsException",
            "far(2, 2) = throws.IndexOutOfBoundsException; far(0, 1) = throws.NoSuchElementException",
            "far(1, 0) = throws.NoSuchElementException; far(-2147483648, 2147483647) = throws.IndexOutOfBoundsException");
    }

    private static void setWind() {
        Script.run("promise 5: the wind before, and what it takes",
            "place(1) = 0; vendor(0, 50, 1, 0) = 0; strength(0, 0) = 49; setWind(9) = 0; strength(0, 0) = 40",
            "setWind(2) = 9; strength(0, 0) = 47; setWind(0) = 2; setWind(10) = throws.IllegalArgumentException",
            "setWind(-1) = throws.IllegalArgumentException; strength(0, 0) = 49; setWind(1) = 0");
    }
}
