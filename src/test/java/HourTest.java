/** Promises 26 to 30, and how an hour goes by: pass, hour, day, sales, sale. */
public final class HourTest {
    private static final String CRIER = Streets.CRIER;
    private static final String TWO_CRIERS = Streets.TWO_CRIERS;

    public static void main(String[] args) {
        hoursAndDays();
        windowsAndWantsInTheirOrder();
        theCheapestOne();
        whoMaySell();
        silentAsTheHourBegins();
        finesAndTiredness();
        meltingAndTapes();
        sales();
        theLastFifty();
        Script.finish("HourTest");
    }

    private static void hoursAndDays() {
        Script.run("promises 26 to 28: hours and days",
            "hour() = 6; day() = 0; pass(1) = 1; hour() = 7; day() = 0; pass(13) = 14; hour() = 20; day() = 0; pass(1) = 15",
            "hour() = 6; day() = 1; pass(60) = 75; hour() = 6; day() = 5; pass(14) = 89; hour() = 20; day() = 5");
        Script.run("promise 26: ranges, and the day 300",
            "pass(0) = throws.IllegalArgumentException; pass(-1) = throws.IllegalArgumentException",
            "pass(61) = throws.IllegalArgumentException; pass(2147483647) = throws.IllegalArgumentException; 74 * pass(60) = 4440",
            "pass(15) = 4455; pass(60) = throws.IllegalStateException; pass(61) = throws.IllegalArgumentException",
            "pass(59) = 4514; day() = 300; hour() = 20; pass(1) = throws.IllegalStateException; pass(60) = throws.IllegalStateException",
            "pass(0) = throws.IllegalArgumentException; day() = 300; hour() = 20");
        Script.run("promise 26: a call that would go behind the day 300 sells nothing",
            "place(0) = 0; vendor(0, 60, 8, 0) = 0; 2 * type(1) = 2; setCry(0) = 0; stock(0, 9) = 9",
            "74 * pass(60) = 4440; pass(60) = 4500; window(0, 0) = 0; want(0, 0, 127, 6, 20, 9) = 1",
            "pass(16) = throws.IllegalStateException; sales() = 0; pass(14) = 4514; sales() = 1");
    }

    private static void windowsAndWantsInTheirOrder() {
        Script.run("an hour: windows by their numbers",
            "place(0) = 0; vendor(0, 50, 8, 0) = 0; 2 * type(1) = 2; setCry(0) = 0; stock(0, 2) = 2; 3 * window(0, 0) = 2",
            "want(2, 0, 127, 6, 20, 9) = 1; want(1, 0, 127, 6, 20, 9) = 1; want(0, 0, 127, 6, 20, 9) = 1; pass(1) = 1",
            "sales() = 2; sale(0, 'w') = 0; sale(1, 'w') = 1; fulfilled(2) = 0");
        Script.run("an hour: wants by their order", TWO_CRIERS,
            "vendor(1, 60, 3, 0) = 2; wipe() = 2; 4 * type(0) = 4; setCry(2) = 0; stock(2, 9) = 9; window(0, 0) = 0",
            "want(0, 1, 127, 6, 20, 9) = 1; want(0, 0, 127, 6, 20, 9) = 2; want(0, 1, 127, 6, 20, 4) = 3; pass(1) = 1; sales() = 3",
            "sale(0, 'v') = 2; sale(1, 'v') = 0; sale(2, 'v') = 2; fulfilled(0) = 3; pass(1) = 2; sales() = 3");
        Script.run("an hour: a want that was not fulfilled is asked again in the next hour", CRIER,
            "window(0, 0) = 0; want(0, 0, 127, 6, 20, 9) = 1; hush(0, true) = false; pass(2) = 2; sales() = 0",
            "hush(0, false) = true; pass(3) = 5; sales() = 1; sale(0, 'h') = 8");
    }

    private static void theCheapestOne() {
        Script.run("an hour: the cheapest one, of like ones the lowest", TWO_CRIERS,
            "window(0, 0) = 0; want(0, 0, 127, 6, 20, 99) = 1; pass(1) = 1; sale(0, 'v') = 0; setPrice(1, 7) = 8; pass(15) = 16",
            "sale(1, 'v') = 1; sale(1, 'p') = 7; setPrice(0, 6) = 8; pass(15) = 31; sale(2, 'v') = 0; hush(0, true) = false",
            "setPrice(1, 99) = 7; pass(15) = 46; sale(3, 'v') = 1; sale(3, 'p') = 99");
        Script.run("an hour: when the cheapest one has no more, the next one sells",
            "place(0) = 0; vendor(2, 60, 90, 0) = 0; vendor(2, 60, 30, 0) = 1; 2 * type(1) = 2; setCry(0) = 0; wipe() = 2",
            "2 * type(9) = 2; setCry(1) = 0; stock(0, 9) = 9; stock(1, 1) = 1; window(0, 0) = 0; want(0, 2, 127, 6, 20, 99) = 1",
            "want(0, 2, 127, 6, 20, 99) = 2; pass(1) = 1; sales() = 2; sale(0, 'v') = 1; sale(1, 'v') = 0; of(1, 's') = 0; owes(0, 0) = 90");
    }

    private static void whoMaySell() {
        Script.run("an hour: of the ware", CRIER,
            "window(0, 0) = 0; want(0, 1, 127, 6, 20, 99) = 1; pass(1) = 1; sales() = 0");
        Script.run("an hour: no farther than 2", CRIER,
            "2 * place(0) = 2; link(0, 1, 2) = 0; link(1, 2, 1) = 0; window(2, 0) = 0; window(1, 0) = 1; want(0, 0, 127, 6, 20, 9) = 1",
            "want(1, 0, 127, 6, 20, 9) = 1; pass(1) = 1; sales() = 1; sale(0, 'w') = 1; hears(0, 0) = true; link(0, 2, 2) = 0",
            "pass(1) = 2; sales() = 2; sale(1, 'w') = 0");
        Script.run("an hour: where the vendor is in that hour", CRIER,
            "place(0) = 1; link(0, 1, 3) = 0; goTo(0, 8, 1) = 0; window(1, 0) = 0; want(0, 0, 127, 6, 20, 9) = 1; pass(2) = 2",
            "sales() = 0; pass(1) = 3; sales() = 1; sale(0, 'h') = 8");
        Script.run("an hour: asks no more than is paid", CRIER,
            "window(0, 0) = 0; want(0, 0, 127, 6, 20, 7) = 1; pass(1) = 1; sales() = 0; want(0, 0, 127, 6, 20, 8) = 2; pass(1) = 2; sales() = 1");
        Script.run("an hour: less than 100 owed", CRIER,
            "window(0, 0) = 0; want(0, 0, 127, 6, 20, 99) = 1; want(0, 0, 127, 6, 20, 99) = 2; want(0, 0, 127, 6, 20, 99) = 3",
            "setPrice(0, 99) = 8; pass(1) = 1; owes(0, 0) = 198; sales() = 2; pay(0, 0, 98) = 100; pass(1) = 2; sales() = 2",
            "pay(0, 0, 1) = 99; pass(1) = 3; sales() = 3; owes(0, 0) = 198");
        Script.run("an hour: who owes too much to one vendor buys from another one", TWO_CRIERS,
            "window(0, 0) = 0; want(0, 0, 127, 6, 20, 99) = 1; want(0, 0, 127, 6, 20, 99) = 2; setPrice(0, 50) = 8",
            "setPrice(1, 60) = 8; pass(1) = 1; owes(0, 0) = 100; owes(0, 1) = 0; pass(15) = 16; owes(0, 0) = 100; owes(0, 1) = 120",
            "pay(0, 0, 1) = 99; pass(15) = 31; owes(0, 0) = 149; owes(0, 1) = 120; sales() = 5");
        Script.run("an hour: heard there, and not blurred", CRIER,
            "vendor(1, 50, 8, 0) = 1; stock(1, 9) = 9; setCry(1) = 0; window(0, 0) = 0; want(0, 0, 127, 6, 20, 9) = 1; pass(1) = 1",
            "sales() = 0; hush(1, true) = false; pass(1) = 2; sales() = 1; window(0, 5) = 1; want(1, 0, 127, 6, 20, 9) = 1",
            "hush(1, false) = true; vendor(2, 60, 1, 0) = 2; hush(0, true) = false; hush(0, false) = true; pass(1) = 3; sales() = 1");
    }

    private static void silentAsTheHourBegins() {
        Script.run("an hour: who sells the last piece blurs others to its end, is on tape, and is tired",
            "place(0) = 0; vendor(0, 50, 8, 0) = 0; vendor(1, 50, 5, 0) = 1; type(1) = 1; type(3) = 2; setCry(0) = 0",
            "setCry(1) = 0; stock(0, 1) = 1; stock(1, 9) = 9; place(0) = 1; link(0, 1, 2) = 0; vendor(2, 10, 1, 1) = 2",
            "window(0, 0) = 0; window(0, 0) = 1; want(0, 0, 127, 6, 20, 9) = 1; want(1, 1, 127, 6, 20, 9) = 1; hush(1, true) = false",
            "tape(0) = 0; pass(1) = 1; sales() = 1; of(0, 's') = 0; of(0, 't') = 3; length(0) = 1; wareAt(0, 0) = 0; isSilent(0) = true",
            "stock(0, 1) = 1; hush(1, false) = true; pass(15) = 16; sales() = 1; of(0, 's') = 1");
        Script.run("an hour: two of like cries, one heard at a high floor alone, sold out in that hour",
            "place(0) = 0; vendor(0, 50, 8, 0) = 0; vendor(1, 19, 5, 0) = 1; 2 * type(1) = 2; setCry(0) = 0; setCry(1) = 0",
            "stock(0, 1) = 1; stock(1, 9) = 9; window(0, 5) = 0; window(0, 0) = 1; want(0, 0, 127, 6, 20, 9) = 1",
            "want(1, 1, 127, 6, 20, 9) = 1; pass(1) = 1; sales() = 1; sale(0, 'w') = 0; of(0, 's') = 0; pass(1) = 2; sales() = 2",
            "sale(1, 'w') = 1; sale(1, 'h') = 7");
    }

    private static void finesAndTiredness() {
        Script.run("an hour: 5 if above the limit of the hour, 3 more tired", CRIER,
            "setLimit(6, 50) = 99; setLimit(7, 49) = 99; setLimit(8, 49) = 99; pass(1) = 1; of(0, 'f') = 0; of(0, 't') = 3; pass(1) = 2",
            "of(0, 'f') = 5; of(0, 't') = 6; pass(1) = 3; of(0, 'f') = 5; of(0, 't') = 9; pass(1) = 4; of(0, 'f') = 5; setLimit(20, 0) = 99",
            "pass(10) = 14; of(0, 'f') = 5; pass(1) = 15; of(0, 'f') = 10; of(0, 't') = 15; pass(1) = 16; of(0, 'f') = 10");
        Script.run("an hour: who is silent is not fined, and does not tire", CRIER,
            "setLimit(6, 0) = 99; hush(0, true) = false; pass(1) = 1; of(0, 'f') = 0; of(0, 't') = 0; hush(0, false) = true",
            "vendor(0, 60, 1, 0) = 1; stock(1, 5) = 5; vendor(0, 60, 1, 0) = 2; setCry(2) = 0; setLimit(7, 0) = 99; pass(1) = 2",
            "of(0, 'f') = 5; of(0, 't') = 3; of(1, 'f') = 0; of(1, 't') = 0; of(2, 'f') = 0; of(2, 't') = 0");
        Script.run("an hour: the strength at the own place is less the wind and the noise",
            "place(3) = 0; place(0) = 1; link(0, 1, 1) = 0; vendor(0, 50, 8, 0) = 0; 2 * type(1) = 2; setCry(0) = 0; stock(0, 9) = 9",
            "goTo(0, 7, 1) = 0; setWind(2) = 0; setLimit(6, 45) = 99; pass(1) = 1; of(0, 'f') = 0; setLimit(7, 47) = 99; pass(1) = 2",
            "of(0, 'f') = 5; setLimit(8, 47) = 99; pass(1) = 3; of(0, 'f') = 5; pass(2) = 5; hour() = 11; of(0, 't') = 15",
            "setLimit(11, 42) = 99; setLimit(12, 40) = 99; pass(1) = 6; of(0, 'f') = 5; of(0, 't') = 18; pass(1) = 7; of(0, 'f') = 10");
        Script.run("an hour: behind the hour 20 all are 30 less tired, 0 at least", CRIER,
            "pass(5) = 5; hush(0, true) = false; of(0, 't') = 15; pass(9) = 14; of(0, 't') = 15; pass(1) = 15; of(0, 't') = 0",
            "hush(0, false) = true; pass(14) = 29; of(0, 't') = 42; hush(0, true) = false; pass(1) = 30; of(0, 't') = 12");
    }

    private static void meltingAndTapes() {
        Script.run("an hour: stock melts behind the sales and the tapes",
            "place(0) = 0; vendor(3, 50, 8, 0) = 0; 2 * type(1) = 2; setCry(0) = 0; stock(0, 1) = 1; setMelting(3, true) = false",
            "window(0, 0) = 0; want(0, 3, 127, 6, 20, 9) = 1; want(0, 3, 127, 6, 20, 9) = 2; tape(0) = 0; pass(1) = 1; sales() = 1",
            "of(0, 's') = 0; length(0) = 1; of(0, 't') = 3; stock(0, 3) = 3; pass(1) = 2; sales() = 2; of(0, 's') = 1; length(0) = 2",
            "pass(1) = 3; of(0, 's') = 0; length(0) = 3; of(0, 't') = 9; pass(1) = 4; length(0) = 3; of(0, 't') = 9; isSound() = true");
        Script.run("an hour: a tape writes by the strength that was before the voice tired",
            "place(0) = 0; vendor(3, 10, 8, 0) = 0; 2 * type(1) = 2; setCry(0) = 0; stock(0, 9) = 9; tape(0) = 0; pass(1) = 1",
            "length(0) = 1; pass(1) = 2; length(0) = 2; of(0, 'v') = 9; pass(1) = 3; length(0) = 2");
    }

    private static void sales() {
        Script.run("promises 29 and 30: what a sale was", TWO_CRIERS,
            "3 * window(0, 0) = 2; want(2, 0, 2, 9, 9, 50) = 1; setPrice(0, 50) = 8; setPrice(1, 20) = 8; sales() = 0; pass(15) = 15",
            "sales() = 0; pass(4) = 19; sales() = 1; sale(0, 'w') = 2; sale(0, 'v') = 1; sale(0, 'p') = 20; sale(0, 'd') = 1",
            "sale(0, 'h') = 9; sale(1, 'w') = throws.NoSuchElementException");
        Script.run("promise 30: wrong inputs", CRIER,
            "sale(0, 'w') = throws.NoSuchElementException; sale(0, 'x') = throws.IllegalArgumentException",
            "sale(-1, 'W') = throws.IllegalArgumentException; sale(-1, 'w') = throws.NoSuchElementException",
            "window(0, 0) = 0; want(0, 0, 127, 6, 20, 9) = 1; pass(1) = 1; sale(1, 'h') = throws.NoSuchElementException",
            "sale(0, 's') = throws.IllegalArgumentException; sale(1, 0) = throws.IllegalArgumentException",
            "sale(0, 375) = throws.IllegalArgumentException; sale(2147483647, 'p') = throws.NoSuchElementException",
            "sale(-2147483648, 'p') = throws.NoSuchElementException; sale(0, 'h') = 6");
    }

    private static void theLastFifty() {
        Script.run("promise 30: the last 50 only",
            "place(0) = 0; vendor(0, 60, 1, 0) = 0; 2 * type(1) = 2; setCry(0) = 0; stock(0, 99) = 99; 12 * window(0, 0) = 11",
            "4 * want(0, 0, 127, 6, 6, 1) = 4; 4 * want(1, 0, 127, 6, 6, 1) = 4; 4 * want(2, 0, 127, 6, 6, 1) = 4",
            "4 * want(3, 0, 127, 6, 6, 1) = 4; 4 * want(4, 0, 127, 6, 6, 1) = 4; 4 * want(5, 0, 127, 6, 6, 1) = 4",
            "4 * want(6, 0, 127, 6, 6, 1) = 4; 4 * want(7, 0, 127, 6, 6, 1) = 4; 4 * want(8, 0, 127, 6, 6, 1) = 4",
            "4 * want(9, 0, 127, 6, 6, 1) = 4; 4 * want(10, 0, 127, 6, 6, 1) = 4; 4 * want(11, 0, 127, 6, 6, 1) = 4",
            "want(0, 0, 127, 6, 6, 1) = throws.IllegalStateException; pass(1) = 1; sales() = 48; sale(0, 'w') = 0; sale(47, 'w') = 11",
            "stock(0, 2) = 53; place(0) = 1; place(0) = 2; setMelting(0, false) = false; pass(14) = 15; pass(1) = 16; sales() = 96",
            "sale(45, 'w') = throws.NoSuchElementException; sale(46, 'w') = 11; sale(46, 'd') = 0; sale(48, 'd') = 1; sale(95, 'w') = 11",
            "sale(96, 'w') = throws.NoSuchElementException; sale(0, 'w') = throws.NoSuchElementException");
        Script.run("promise 30: just 50, and 51",
            "place(0) = 0; vendor(0, 60, 1, 0) = 0; 2 * type(1) = 2; setCry(0) = 0; stock(0, 51) = 51; window(0, 0) = 0",
            "want(0, 0, 127, 6, 6, 9) = 1; 12 * pass(60) = 720; pass(16) = 736; sales() = 50; sale(0, 'd') = 0; sale(49, 'd') = 49",
            "pass(15) = 751; sales() = 51; sale(0, 'd') = throws.NoSuchElementException; sale(1, 'd') = 1; sale(50, 'd') = 50");
    }
}
