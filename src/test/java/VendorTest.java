/** Promises 8 and 11 to 19: vendor, goTo, at, setPrice, stock, hush, setMelting, isSilent, of, strength. */
public final class VendorTest {
    private static final String CRIER = Streets.CRIER;

    public static void main(String[] args) {
        vendor();
        goTo();
        goToWhereThereIsNoTime();
        at();
        setPrice();
        stock();
        hushAndSilence();
        setMelting();
        of();
        voiceOfATiredOne();
        strength();
        Script.finish("VendorTest");
    }

    private static void vendor() {
        Script.run("promise 8: numbers, room, without stock and cry",
            "2 * place(0) = 1; vendor(0, 10, 1, 0) = 0; vendor(5, 60, 99, 1) = 1; of(0, 'w') = 0; of(1, 'w') = 5",
            "of(0, 'v') = 10; of(1, 'v') = 60; of(0, 's') = 0; of(0, 't') = 0; of(0, 'f') = 0; of(0, 'e') = 0",
            "at(0, 6) = 0; at(0, 20) = 0; at(1, 6) = 1; at(1, 13) = 1; at(1, 20) = 1; setPrice(1, 1) = 99; isSilent(0) = true",
            "apart(0, 0) = throws.NoSuchElementException; 6 * vendor(0, 10, 1, 0) = 7; of(7, 'w') = 0",
            "vendor(0, 10, 1, 0) = throws.IllegalStateException; vendor(6, 10, 1, 0) = throws.IllegalArgumentException",
            "vendor(0, 10, 1, 2) = throws.IndexOutOfBoundsException; of(8, 'w') = throws.IndexOutOfBoundsException");
        Script.run("promise 8: wrong inputs",
            "vendor(0, 10, 1, 0) = throws.IndexOutOfBoundsException; place(0) = 0",
            "vendor(-1, 10, 1, 0) = throws.IllegalArgumentException; vendor(6, 10, 1, 0) = throws.IllegalArgumentException",
            "vendor(0, 9, 1, 0) = throws.IllegalArgumentException; vendor(0, 61, 1, 0) = throws.IllegalArgumentException",
            "vendor(0, 10, 0, 0) = throws.IllegalArgumentException; vendor(0, 10, 100, 0) = throws.IllegalArgumentException",
            "vendor(0, 10, 1, -1) = throws.IndexOutOfBoundsException; vendor(0, 10, 1, 1) = throws.IndexOutOfBoundsException",
            "vendor(6, 9, 0, 1) = throws.IndexOutOfBoundsException; of(0, 's') = throws.IndexOutOfBoundsException");
    }

    private static void goTo() {
        Script.run("promise 11: from the hour told up to the next hour that is told",
            "3 * place(0) = 2; link(0, 1, 4) = 0; link(1, 2, 8) = 0; vendor(0, 50, 8, 0) = 0; goTo(0, 10, 1) = 0",
            "at(0, 6) = 0; at(0, 9) = 0; at(0, 10) = 1; at(0, 20) = 1; goTo(0, 8, 2) = 0; at(0, 7) = 0; at(0, 8) = 2",
            "at(0, 9) = 2; at(0, 10) = 1; at(0, 20) = 1; goTo(0, 10, 2) = 1; at(0, 10) = 2; at(0, 20) = 2; goTo(0, 15, 2) = 2",
            "goTo(0, 12, 0) = 2; at(0, 11) = 2; at(0, 12) = 0; at(0, 14) = 0; at(0, 15) = 2; goTo(0, 6, 1) = 0; at(0, 6) = 1",
            "at(0, 7) = 1; at(0, 8) = 2; goTo(0, 20, 1) = 2; at(0, 19) = 2; at(0, 20) = 1; goTo(0, 20, 1) = 1");
        Script.run("promise 11: of one vendor only",
            "2 * place(0) = 1; link(0, 1, 4) = 0; 2 * vendor(0, 50, 8, 0) = 1; goTo(1, 7, 1) = 0; at(0, 7) = 0; at(1, 7) = 1");
        Script.run("promise 11: wrong inputs",
            "2 * place(0) = 1; link(0, 1, 4) = 0; goTo(0, 6, 0) = throws.IndexOutOfBoundsException; vendor(0, 50, 8, 0) = 0",
            "goTo(1, 5, 0) = throws.IndexOutOfBoundsException; goTo(-1, 6, 0) = throws.IndexOutOfBoundsException",
            "goTo(0, 21, 2) = throws.IndexOutOfBoundsException; goTo(0, 6, -1) = throws.IndexOutOfBoundsException",
            "goTo(0, 5, 0) = throws.IllegalArgumentException; goTo(0, 21, 1) = throws.IllegalArgumentException",
            "goTo(0, -2147483648, 0) = throws.IllegalArgumentException; place(0) = 2; goTo(0, 5, 2) = throws.IllegalArgumentException");
    }

    private static void goToWhereThereIsNoTime() {
        Script.run("promise 11: 12 at most from an hour to the next one",
            "3 * place(0) = 2; link(0, 1, 6) = 0; link(1, 2, 7) = 0; vendor(0, 50, 8, 0) = 0",
            "goTo(0, 10, 2) = throws.UnsupportedOperationException; at(0, 10) = 0; link(1, 2, 6) = 7; goTo(0, 10, 2) = 0",
            "at(0, 9) = 0; at(0, 10) = 2");
        Script.run("promise 11: no way",
            "2 * place(0) = 1; vendor(0, 50, 8, 0) = 0; goTo(0, 7, 1) = throws.UnsupportedOperationException",
            "goTo(0, 20, 1) = throws.UnsupportedOperationException; at(0, 20) = 0; goTo(0, 20, 0) = 0; goTo(0, 6, 1) = throws.UnsupportedOperationException",
            "vendor(0, 50, 8, 0) = 1; goTo(1, 6, 1) = 0; at(1, 6) = 1; at(1, 20) = 1");
        Script.run("promise 11: to the place behind, too",
            "4 * place(0) = 3; link(0, 1, 9) = 0; link(1, 2, 9) = 0; link(0, 3, 9) = 0; vendor(0, 50, 8, 0) = 0; goTo(0, 12, 1) = 0",
            "goTo(0, 11, 3) = throws.UnsupportedOperationException; goTo(0, 11, 2) = throws.UnsupportedOperationException",
            "goTo(0, 13, 2) = 1; goTo(0, 12, 0) = throws.UnsupportedOperationException; at(0, 12) = 1; goTo(0, 14, 1) = 2",
            "goTo(0, 15, 0) = 1; goTo(0, 14, 2) = throws.UnsupportedOperationException; at(0, 14) = 1");
        Script.run("promise 11: up to the next hour that is told only",
            "3 * place(0) = 2; link(0, 1, 9) = 0; link(1, 2, 9) = 0; vendor(0, 50, 8, 0) = 0; goTo(0, 10, 1) = 0",
            "goTo(0, 11, 2) = 1; goTo(0, 8, 0) = 0; at(0, 9) = 0; at(0, 10) = 1; at(0, 11) = 2; goTo(0, 10, 0) = throws.UnsupportedOperationException");
        Script.run("promise 11: all hours are looked at, by links as they are then",
            "3 * place(0) = 2; link(0, 1, 6) = 0; link(1, 2, 6) = 0; vendor(0, 50, 8, 0) = 0; goTo(0, 10, 2) = 0",
            "link(1, 2, 7) = 6; at(0, 10) = 2; goTo(0, 15, 2) = throws.UnsupportedOperationException",
            "goTo(0, 6, 0) = throws.UnsupportedOperationException; goTo(0, 20, 1) = throws.UnsupportedOperationException",
            "goTo(0, 9, 1) = 0; at(0, 9) = 1; at(0, 10) = 2; goTo(0, 15, 2) = 2; goTo(0, 20, 1) = 2");
        Script.run("promise 11: not from the last hour of a day to the first one of the next",
            "3 * place(0) = 2; link(0, 1, 9) = 0; link(1, 2, 9) = 0; vendor(0, 50, 8, 0) = 0; goTo(0, 19, 1) = 0; goTo(0, 20, 2) = 1",
            "at(0, 6) = 0; at(0, 20) = 2");
    }

    private static void at() {
        Script.run("promise 12: the first and the last hour, and wrong inputs",
            "place(0) = 0; at(0, 6) = throws.IndexOutOfBoundsException; vendor(0, 50, 8, 0) = 0; at(0, 6) = 0; at(0, 20) = 0",
            "at(0, 5) = throws.IllegalArgumentException; at(0, 21) = throws.IllegalArgumentException",
            "at(1, 5) = throws.IndexOutOfBoundsException; at(-1, 6) = throws.IndexOutOfBoundsException",
            "at(0, 2147483647) = throws.IllegalArgumentException; at(0, -2147483648) = throws.IllegalArgumentException");
    }

    private static void setPrice() {
        Script.run("promise 13: the one before, and wrong inputs",
            "place(0) = 0; setPrice(0, 1) = throws.IndexOutOfBoundsException; 2 * vendor(0, 50, 8, 0) = 1; setPrice(0, 1) = 8",
            "setPrice(0, 99) = 1; setPrice(0, 0) = throws.IllegalArgumentException; setPrice(0, 100) = throws.IllegalArgumentException",
            "setPrice(2, 0) = throws.IndexOutOfBoundsException; setPrice(-1, 5) = throws.IndexOutOfBoundsException",
            "setPrice(0, 8) = 99; setPrice(1, 8) = 8");
        Script.run("promise 13: it is the price that is asked then", CRIER,
            "window(0, 0) = 0; want(0, 0, 127, 6, 20, 9) = 1; setPrice(0, 10) = 8; pass(1) = 1; sales() = 0; setPrice(0, 9) = 10",
            "pass(1) = 2; sales() = 1; sale(0, 'p') = 9; setPrice(0, 99) = 9; owes(0, 0) = 9; of(0, 'e') = 9");
    }

    private static void stock() {
        Script.run("promise 14: how many there are, up to 999",
            "place(0) = 0; 2 * vendor(0, 50, 8, 0) = 1; stock(0, 1) = 1; stock(0, 99) = 100; of(0, 's') = 100; of(1, 's') = 0",
            "9 * stock(0, 99) = 991; stock(0, 9) = throws.UnsupportedOperationException; stock(0, 8) = 999",
            "stock(0, 1) = throws.UnsupportedOperationException; stock(0, 99) = throws.UnsupportedOperationException; of(0, 's') = 999");
        Script.run("promise 14: wrong inputs",
            "place(0) = 0; stock(0, 1) = throws.IndexOutOfBoundsException; vendor(0, 50, 8, 0) = 0",
            "stock(0, 0) = throws.IllegalArgumentException; stock(0, 100) = throws.IllegalArgumentException",
            "stock(0, -1) = throws.IllegalArgumentException; stock(0, 2147483647) = throws.IllegalArgumentException",
            "stock(1, 0) = throws.IndexOutOfBoundsException; stock(-1, 5) = throws.IndexOutOfBoundsException",
            "10 * stock(0, 99) = 990; stock(0, 100) = throws.IllegalArgumentException; stock(0, 10) = throws.UnsupportedOperationException",
            "stock(1, 10) = throws.IndexOutOfBoundsException; stock(0, 9) = 999");
    }

    private static void hushAndSilence() {
        Script.run("promise 15: whether so before",
            "place(0) = 0; hush(0, true) = throws.IndexOutOfBoundsException; 2 * vendor(0, 50, 8, 0) = 1; hush(0, false) = false",
            "hush(0, true) = false; hush(0, true) = true; hush(1, true) = false; hush(0, false) = true; hush(0, false) = false",
            "hush(2, true) = throws.IndexOutOfBoundsException; hush(-1, true) = throws.IndexOutOfBoundsException; hush(1, false) = true");
        Script.run("promise 17: without a cry, without stock, or hushed",
            "place(0) = 0; isSilent(0) = throws.IndexOutOfBoundsException; vendor(0, 50, 8, 0) = 0; isSilent(0) = true; stock(0, 1) = 1",
            "isSilent(0) = true; 2 * type(1) = 2; setCry(0) = 0; isSilent(0) = false; hush(0, true) = false; isSilent(0) = true",
            "hush(0, false) = true; isSilent(0) = false; setMelting(0, true) = false; pass(1) = 1; of(0, 's') = 0; isSilent(0) = true",
            "stock(0, 2) = 2; isSilent(0) = false; isSilent(1) = throws.IndexOutOfBoundsException",
            "isSilent(-1) = throws.IndexOutOfBoundsException; vendor(0, 50, 8, 0) = 1; setCry(1) = 0; isSilent(1) = true");
    }

    private static void setMelting() {
        Script.run("promise 16: whether it did, ware by ware, and wrong inputs",
            "setMelting(0, false) = false; setMelting(5, true) = false; setMelting(5, true) = true; setMelting(5, false) = true",
            "setMelting(5, false) = false; setMelting(4, true) = false; setMelting(3, false) = false; setMelting(4, false) = true",
            "setMelting(-1, true) = throws.IllegalArgumentException; setMelting(6, true) = throws.IllegalArgumentException");
        Script.run("promise 16: one less each hour, of silent vendors, too, 0 at least",
            "place(0) = 0; vendor(0, 50, 8, 0) = 0; vendor(1, 50, 8, 0) = 1; vendor(1, 50, 8, 0) = 2; stock(0, 5) = 5; stock(1, 5) = 5",
            "stock(2, 1) = 1; setMelting(1, true) = false; pass(1) = 1; of(0, 's') = 5; of(1, 's') = 4; of(2, 's') = 0; pass(3) = 4",
            "of(1, 's') = 1; of(2, 's') = 0; pass(2) = 6; of(1, 's') = 0; setMelting(0, true) = false; setMelting(1, false) = true",
            "stock(1, 5) = 5; pass(10) = 16; of(0, 's') = 0; of(1, 's') = 5; isSound() = true");
    }

    private static void of() {
        Script.run("promise 18: each number", CRIER,
            "window(0, 0) = 0; want(0, 0, 127, 6, 6, 9) = 1; setLimit(6, 49) = 99; pass(1) = 1; of(0, 's') = 98; of(0, 't') = 3",
            "of(0, 'v') = 50; of(0, 'f') = 5; of(0, 'e') = 8; of(0, 'w') = 0; pay(0, 0, 8) = 0; of(0, 'e') = 8; pass(15) = 16",
            "of(0, 's') = 97; of(0, 'e') = 16; of(0, 'f') = 5; of(0, 't') = 18; of(0, 'v') = 46");
        Script.run("promise 18: wrong inputs",
            "place(0) = 0; of(0, 's') = throws.IndexOutOfBoundsException; vendor(3, 50, 8, 0) = 0; of(0, 'w') = 3",
            "of(0, 'x') = throws.IllegalArgumentException; of(0, 'S') = throws.IllegalArgumentException",
            "of(0, 0) = throws.IllegalArgumentException; of(0, 65535) = throws.IllegalArgumentException",
            "of(0, 371) = throws.IllegalArgumentException; of(1, 'x') = throws.IndexOutOfBoundsException",
            "of(-1, 's') = throws.IndexOutOfBoundsException; of(0, 'p') = throws.IllegalArgumentException");
    }

    private static void voiceOfATiredOne() {
        Script.run("promise 18: a quarter of how tired, cut", CRIER,
            "of(0, 'v') = 50; pass(1) = 1; of(0, 't') = 3; of(0, 'v') = 50; pass(1) = 2; of(0, 't') = 6; of(0, 'v') = 49",
            "pass(1) = 3; of(0, 't') = 9; of(0, 'v') = 48; pass(1) = 4; of(0, 't') = 12; of(0, 'v') = 47; pass(9) = 13",
            "of(0, 't') = 39; of(0, 'v') = 41; strength(0, 0) = 41; pass(1) = 14; of(0, 't') = 42; pass(1) = 15; of(0, 't') = 15",
            "of(0, 'v') = 47");
        Script.run("promise 18: 200 at most, 30 less behind the last hour, and the voice below 0",
            "place(0) = 0; vendor(0, 10, 8, 0) = 0; 2 * type(1) = 2; setCry(0) = 0; stock(0, 99) = 99; 2 * pass(60) = 120",
            "pass(45) = 165; of(0, 't') = 165; pass(11) = 176; of(0, 't') = 198; of(0, 'v') = -39; pass(1) = 177; of(0, 't') = 200",
            "of(0, 'v') = -40; isSound() = true; pass(2) = 179; of(0, 't') = 200; strength(0, 0) = 0; pass(1) = 180; of(0, 't') = 170; of(0, 'v') = -32",
            "hush(0, true) = false; pass(15) = 195; of(0, 't') = 140; 2 * pass(30) = 255; of(0, 't') = 20; pass(15) = 270",
            "of(0, 't') = 0; of(0, 'v') = 10; isSound() = true");
    }

    private static void strength() {
        Script.run("promise 19: less 5 times how far, the wind and the noise there",
            "place(2) = 0; place(7) = 1; place(0) = 2; link(0, 1, 3) = 0; link(1, 2, 4) = 0; vendor(0, 50, 8, 0) = 0",
            "strength(0, 0) = 48; strength(0, 1) = 28; strength(0, 2) = 15; setWind(4) = 0; strength(0, 0) = 44",
            "strength(0, 1) = 24; strength(0, 2) = 11; setWind(9) = 4; strength(0, 2) = 6; link(1, 2, 6) = 4; strength(0, 2) = 0",
            "place(0) = 3; strength(0, 3) = 0; isSilent(0) = true");
        Script.run("promise 19: 3 more from 11 to 13",
            "place(1) = 0; vendor(0, 50, 8, 0) = 0; pass(4) = 4; hour() = 10; strength(0, 0) = 49; pass(1) = 5; strength(0, 0) = 46",
            "pass(1) = 6; strength(0, 0) = 46; pass(1) = 7; hour() = 13; strength(0, 0) = 46; pass(1) = 8; strength(0, 0) = 49",
            "pass(12) = 20; hour() = 11; strength(0, 0) = 46");
        Script.run("promise 19: from where the vendor is in the hour of now",
            "2 * place(0) = 1; link(0, 1, 2) = 0; vendor(0, 50, 8, 0) = 0; goTo(0, 7, 1) = 0; goTo(0, 8, 0) = 1; strength(0, 0) = 50",
            "strength(0, 1) = 40; pass(1) = 1; strength(0, 0) = 40; strength(0, 1) = 50; pass(1) = 2; strength(0, 0) = 50");
        Script.run("promise 19: just 0",
            "place(0) = 0; place(1) = 1; link(0, 1, 2) = 0; vendor(0, 12, 1, 0) = 0; strength(0, 1) = 1; setWind(1) = 0",
            "strength(0, 1) = 0; setWind(2) = 1; strength(0, 1) = 0");
        Script.run("promise 19: wrong inputs",
            "place(0) = 0; strength(0, 0) = throws.IndexOutOfBoundsException; vendor(0, 50, 8, 0) = 0",
            "strength(0, 1) = throws.IndexOutOfBoundsException; strength(1, 0) = throws.IndexOutOfBoundsException",
            "strength(-1, 0) = throws.IndexOutOfBoundsException; strength(0, -1) = throws.IndexOutOfBoundsException");
    }
}
