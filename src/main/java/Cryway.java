import java.util.NoSuchElementException;

public final class Cryway {
    private static final int MOST_PLACES = 10;
    private static final int MOST_NOISE = 9;
    private static final int MOST_METRES = 9;
    private static final int MOST_WIND = 9;
    private static final int NO_WAY = 1000;

    private static final int FIRST_HOUR = 6;
    private static final int LAST_HOUR = 20;
    private static final int HOURS_A_DAY = 15;
    private static final int LAST_DAY = 300;
    private static final int DAYS_A_WEEK = 7;
    private static final int ALL_WEEKDAYS = 127;
    private static final int MOST_HOURS_TO_PASS = 60;

    private static final int MOST_TONE = 9;
    private static final int MOST_TONES = 8;
    private static final int LEAST_TONES = 2;
    private static final int COST_OF_A_TONE_MORE = 4;
    private static final int APART_ENOUGH = 6;
    private static final int FREE_CRY_TONES = 4;
    private static final int FREE_CRY_BASE = 5;
    private static final int FREE_CRIES = 625;

    private static final int MOST_VENDORS = 8;
    private static final int WARES = 6;
    private static final int LEAST_LOUDNESS = 10;
    private static final int MOST_LOUDNESS = 60;
    private static final int MOST_PRICE = 99;
    private static final int MOST_BROUGHT = 99;
    private static final int MOST_STOCK = 999;
    private static final int FARTHEST_IN_AN_HOUR = 12;
    private static final int LOSS_A_METRE = 5;
    private static final int LOSS_AT_NOON = 3;
    private static final int TIRED_A_LOUDNESS = 4;
    private static final int MOST_TIRED = 200;
    private static final int TIRED_BY_AN_HOUR = 3;
    private static final int RESTED_BY_A_NIGHT = 30;
    private static final int LEAST_STRENGTH_HEARD = 10;

    private static final int MOST_WINDOWS = 12;
    private static final int MOST_FLOOR = 5;
    private static final int LOSS_A_FLOOR = 2;
    private static final int MOST_WANTS = 4;
    private static final int FARTHEST_BASKET = 2;
    private static final int CHALK_LIMIT = 100;
    private static final int MOST_PAID_AT_ONCE = 999;
    private static final int SALES_KEPT = 50;

    private static final int MOST_LIMIT = 99;
    private static final int FINE_FOR_NOISE = 5;
    private static final int FINE_IN_A_RAID = 30;
    private static final int MOST_PERMITS = 6;
    private static final int MOST_TAPES = 6;
    private static final int MOST_ON_TAPE = 40;

    private final Street street = new Street();
    private final Clock clock = new Clock();
    private final Vendor[] vendors = new Vendor[MOST_VENDORS];
    private final Window[] windows = new Window[MOST_WINDOWS];
    private final Tape[] tapes = new Tape[MOST_TAPES];
    private final Ledger ledger = new Ledger();
    private final Cry typed = new Cry();
    private final Cry trial = new Cry();
    private final boolean[] melts = new boolean[WARES];
    private final int[] limits = new int[HOURS_A_DAY];
    private final boolean[] silent = new boolean[MOST_VENDORS];
    private final int[][] strengths = new int[MOST_VENDORS][MOST_PLACES];
    private final int[] changesAbove = new int[MOST_ON_TAPE + 1];
    private final int[] changesBelow = new int[MOST_ON_TAPE + 1];
    private int vendorCount;
    private int windowCount;
    private int tapeCount;
    private int wind;

    // Everything a street can ever hold is made here, so that no later call needs room of its own.
    public Cryway() {
        for (int i = 0; i < MOST_VENDORS; i++) {
            vendors[i] = new Vendor();
        }
        for (int i = 0; i < MOST_WINDOWS; i++) {
            windows[i] = new Window();
        }
        for (int i = 0; i < MOST_TAPES; i++) {
            tapes[i] = new Tape();
        }
        for (int i = 0; i < HOURS_A_DAY; i++) {
            limits[i] = MOST_LIMIT;
        }
    }

    // ---- the street ----

    public int place(int noise) throws IllegalArgumentException, IllegalStateException {
        checkRange(noise, 0, MOST_NOISE);
        checkRoom(street.placeCount, MOST_PLACES);
        street.addPlace(noise);
        return street.placeCount - 1;
    }

    public int link(int place, int other, int metres) throws IndexOutOfBoundsException, IllegalArgumentException {
        checkPlace(place);
        checkPlace(other);
        if (place == other) {
            throw new IllegalArgumentException("a place is not linked with itself");
        }
        checkRange(metres, 1, MOST_METRES);
        int before = street.lengths[place][other];
        street.join(place, other, metres);
        return before;
    }

    public int far(int place, int other) throws IndexOutOfBoundsException, NoSuchElementException {
        checkPlace(place);
        checkPlace(other);
        int way = street.ways[place][other];
        if (way >= NO_WAY) {
            throw new NoSuchElementException("no way");
        }
        return way;
    }

    public int setWind(int wind) throws IllegalArgumentException {
        checkRange(wind, 0, MOST_WIND);
        int before = this.wind;
        this.wind = wind;
        return before;
    }

    // ---- cries ----

    public int type(int tone) throws IllegalArgumentException, IllegalStateException {
        checkRange(tone, 0, MOST_TONE);
        checkRoom(typed.toneCount, MOST_TONES);
        typed.add(tone);
        return typed.toneCount;
    }

    public int wipe() {
        int before = typed.toneCount;
        typed.toneCount = 0;
        return before;
    }

    public int setCry(int vendor) throws IndexOutOfBoundsException, UnsupportedOperationException {
        checkVendor(vendor);
        if (typed.toneCount < LEAST_TONES) {
            throw new UnsupportedOperationException("too few tones for a cry");
        }
        Cry cry = vendors[vendor].cry;
        int before = cry.toneCount;
        cry.becomeLike(typed);
        return before;
    }

    public int apart(int vendor, int other) throws IndexOutOfBoundsException, NoSuchElementException {
        checkVendor(vendor);
        checkVendor(other);
        Cry one = vendors[vendor].cry;
        Cry two = vendors[other].cry;
        if (one.toneCount == 0 || two.toneCount == 0) {
            throw new NoSuchElementException("no cry");
        }
        return one.distanceTo(two);
    }

    public int freeCry(int place) throws IndexOutOfBoundsException, NoSuchElementException {
        checkPlace(place);
        listen();
        for (int rank = 0; rank < FREE_CRIES; rank++) {
            trial.becomeFreeCry(rank);
            if (isFreeAt(trial, place)) {
                return trial.digits();
            }
        }
        throw new NoSuchElementException("no cry is free");
    }

    // ---- vendors ----

    public int vendor(int ware, int loudness, int price, int place)
            throws IndexOutOfBoundsException, IllegalArgumentException, IllegalStateException {
        checkPlace(place);
        checkWare(ware);
        checkRange(loudness, LEAST_LOUDNESS, MOST_LOUDNESS);
        checkRange(price, 1, MOST_PRICE);
        checkRoom(vendorCount, MOST_VENDORS);
        vendors[vendorCount].open(ware, loudness, price, place);
        vendorCount++;
        return vendorCount - 1;
    }

    public int goTo(int vendor, int hour, int place)
            throws IndexOutOfBoundsException, IllegalArgumentException, UnsupportedOperationException {
        checkVendor(vendor);
        checkPlace(place);
        checkHour(hour);
        Vendor walker = vendors[vendor];
        int from = hour - FIRST_HOUR;
        int until = walker.nextToldBehind(from);
        if (!canWalk(walker, from, until, place)) {
            throw new UnsupportedOperationException("too far for an hour");
        }
        int before = walker.plan[from];
        walker.tell(from, until, place);
        return before;
    }

    public int at(int vendor, int hour) throws IndexOutOfBoundsException, IllegalArgumentException {
        checkVendor(vendor);
        checkHour(hour);
        return vendors[vendor].plan[hour - FIRST_HOUR];
    }

    public int setPrice(int vendor, int price) throws IndexOutOfBoundsException, IllegalArgumentException {
        checkVendor(vendor);
        checkRange(price, 1, MOST_PRICE);
        int before = vendors[vendor].price;
        vendors[vendor].price = price;
        return before;
    }

    public int stock(int vendor, int many)
            throws IndexOutOfBoundsException, IllegalArgumentException, UnsupportedOperationException {
        checkVendor(vendor);
        checkRange(many, 1, MOST_BROUGHT);
        int sum = vendors[vendor].stock + many;
        if (sum > MOST_STOCK) {
            throw new UnsupportedOperationException("too much stock");
        }
        vendors[vendor].stock = sum;
        return sum;
    }

    public boolean hush(int vendor, boolean is) throws IndexOutOfBoundsException {
        checkVendor(vendor);
        boolean before = vendors[vendor].hushed;
        vendors[vendor].hushed = is;
        return before;
    }

    public boolean setMelting(int ware, boolean is) throws IllegalArgumentException {
        checkWare(ware);
        boolean before = melts[ware];
        melts[ware] = is;
        return before;
    }

    public boolean isSilent(int vendor) throws IndexOutOfBoundsException {
        checkVendor(vendor);
        return vendors[vendor].keepsQuiet();
    }

    public int of(int vendor, char what) throws IndexOutOfBoundsException, IllegalArgumentException {
        checkVendor(vendor);
        Vendor asked = vendors[vendor];
        switch (what) {
            case 's':
                return asked.stock;
            case 't':
                return asked.tired;
            case 'v':
                return asked.voice();
            case 'f':
                return asked.fines;
            case 'e':
                return asked.earned;
            case 'w':
                return asked.ware;
            default:
                throw new IllegalArgumentException("no such number of a vendor");
        }
    }

    public int strength(int vendor, int place) throws IndexOutOfBoundsException {
        checkVendor(vendor);
        checkPlace(place);
        return strengthFrom(vendors[vendor], placeNow(vendors[vendor]), place);
    }

    public int bestPlace(int vendor) throws IndexOutOfBoundsException {
        checkVendor(vendor);
        int best = 0;
        int most = 0;
        for (int place = 0; place < street.placeCount; place++) {
            int reached = buyersReached(vendors[vendor], place);
            if (reached > most) {
                best = place;
                most = reached;
            }
        }
        return best;
    }

    // ---- windows ----

    public int window(int place, int floor)
            throws IndexOutOfBoundsException, IllegalArgumentException, IllegalStateException {
        checkPlace(place);
        checkRange(floor, 0, MOST_FLOOR);
        checkRoom(windowCount, MOST_WINDOWS);
        windows[windowCount].place = place;
        windows[windowCount].floor = floor;
        windowCount++;
        return windowCount - 1;
    }

    public int want(int window, int ware, int weekdays, int from, int to, int most)
            throws IndexOutOfBoundsException, IllegalArgumentException, IllegalStateException {
        checkWindow(window);
        checkWare(ware);
        checkRange(weekdays, 1, ALL_WEEKDAYS);
        checkHour(from);
        checkRange(to, from, LAST_HOUR);
        checkRange(most, 1, MOST_PRICE);
        Window buyer = windows[window];
        checkRoom(buyer.wantCount, MOST_WANTS);
        buyer.wants[buyer.wantCount].begin(ware, weekdays, from, to, most);
        buyer.wantCount++;
        return buyer.wantCount;
    }

    public boolean hears(int window, int vendor) throws IndexOutOfBoundsException {
        checkWindow(window);
        checkVendor(vendor);
        listen();
        return isHeard(windows[window], vendor);
    }

    public int fulfilled(int window) throws IndexOutOfBoundsException {
        checkWindow(window);
        return windows[window].fulfilledOn(clock.day);
    }

    public int owes(int window, int vendor) throws IndexOutOfBoundsException {
        checkWindow(window);
        checkVendor(vendor);
        return windows[window].owed[vendor];
    }

    public int pay(int window, int vendor, int sum)
            throws IndexOutOfBoundsException, IllegalArgumentException, UnsupportedOperationException {
        checkWindow(window);
        checkVendor(vendor);
        checkRange(sum, 1, MOST_PAID_AT_ONCE);
        int[] owed = windows[window].owed;
        if (owed[vendor] < sum) {
            throw new UnsupportedOperationException("less is owed");
        }
        owed[vendor] -= sum;
        vendors[vendor].paid += sum;
        return owed[vendor];
    }

    // ---- hours and sales ----

    public int pass(int hours) throws IllegalArgumentException, IllegalStateException {
        checkRange(hours, 1, MOST_HOURS_TO_PASS);
        if (clock.hoursSinceStart() + hours >= HOURS_A_DAY * (LAST_DAY + 1)) {
            throw new IllegalStateException("behind the last day");
        }
        for (int i = 0; i < hours; i++) {
            passOneHour();
        }
        return clock.hoursSinceStart();
    }

    public int hour() {
        return clock.hour;
    }

    public int day() {
        return clock.day;
    }

    public int sales() {
        return ledger.count;
    }

    public int sale(int sale, char what) throws IllegalArgumentException, NoSuchElementException {
        int column = Ledger.columnOf(what);
        if (column < 0) {
            throw new IllegalArgumentException("no such thing of a sale");
        }
        if (!ledger.keeps(sale)) {
            throw new NoSuchElementException("no such sale");
        }
        return ledger.read(sale, column);
    }

    // ---- limits, permits and raids ----

    public int setLimit(int hour, int limit) throws IllegalArgumentException {
        checkHour(hour);
        checkRange(limit, 0, MOST_LIMIT);
        int before = limits[hour - FIRST_HOUR];
        limits[hour - FIRST_HOUR] = limit;
        return before;
    }

    public int permit(int vendor, int place, int from, int to)
            throws IndexOutOfBoundsException, IllegalArgumentException, IllegalStateException {
        checkVendor(vendor);
        checkPlace(place);
        checkHour(from);
        checkRange(to, from, LAST_HOUR);
        Vendor holder = vendors[vendor];
        checkRoom(holder.permitCount, MOST_PERMITS);
        holder.addPermit(place, from, to);
        return holder.permitCount;
    }

    public int raid(int place) throws IndexOutOfBoundsException {
        checkPlace(place);
        int fined = 0;
        for (int i = 0; i < vendorCount; i++) {
            Vendor suspect = vendors[i];
            if (placeNow(suspect) == place && !suspect.isPermitted(place, clock.hour)) {
                suspect.fines += FINE_IN_A_RAID;
                fined++;
            }
        }
        return fined;
    }

    // ---- tapes ----

    public int tape(int place) throws IndexOutOfBoundsException, IllegalStateException {
        checkPlace(place);
        checkRoom(tapeCount, MOST_TAPES);
        tapes[tapeCount].place = place;
        tapeCount++;
        return tapeCount - 1;
    }

    public int length(int tape) throws IndexOutOfBoundsException {
        checkTape(tape);
        return tapes[tape].wareCount;
    }

    public int wareAt(int tape, int index) throws IndexOutOfBoundsException, NoSuchElementException {
        checkTape(tape);
        if (index < 0 || index >= tapes[tape].wareCount) {
            throw new NoSuchElementException("no such ware on the tape");
        }
        return tapes[tape].wares[index];
    }

    public int differ(int tape, int other) throws IndexOutOfBoundsException {
        checkTape(tape);
        checkTape(other);
        return changesBetween(tapes[tape], tapes[other]);
    }

    public int nearest(int tape) throws IndexOutOfBoundsException, NoSuchElementException {
        checkTape(tape);
        if (tapeCount < 2) {
            throw new NoSuchElementException("no other tape");
        }
        int best = 0;
        int least = MOST_ON_TAPE + 1;
        for (int i = 0; i < tapeCount; i++) {
            int changes = i == tape ? least : changesBetween(tapes[tape], tapes[i]);
            if (changes < least) {
                best = i;
                least = changes;
            }
        }
        return best;
    }

    // ---- sums over the street ----

    public long checksum() {
        long sum = 7;
        for (int i = 0; i < vendorCount; i++) {
            sum = 31 * sum + vendors[i].stock;
            sum = 31 * sum + vendors[i].tired;
            sum = 31 * sum + vendors[i].fines;
            sum = 31 * sum + vendors[i].earned;
        }
        for (int i = 0; i < windowCount; i++) {
            sum = 31 * sum + windows[i].owedInAll();
        }
        sum = 31 * sum + ledger.count;
        sum = 31 * sum + clock.day;
        return 31 * sum + clock.hour;
    }

    public float silentShare() throws ArithmeticException {
        if (vendorCount == 0) {
            throw new ArithmeticException("no vendors");
        }
        int quiet = 0;
        for (int i = 0; i < vendorCount; i++) {
            if (vendors[i].keepsQuiet()) {
                quiet++;
            }
        }
        return (float) quiet / (float) vendorCount;
    }

    public double meanPrice() throws ArithmeticException {
        if (ledger.count == 0) {
            throw new ArithmeticException("no sales");
        }
        return (double) ledger.sumOfPrices / (double) ledger.count;
    }

    public boolean isSound() {
        for (int i = 0; i < vendorCount; i++) {
            Vendor checked = vendors[i];
            if (checked.earned != owedTo(i) + checked.paid) {
                return false;
            }
            if (checked.stock < 0 || checked.tired > MOST_TIRED) {
                return false;
            }
        }
        return true;
    }

    // ---- what is refused ----

    private void checkPlace(int place) {
        if (place < 0 || place >= street.placeCount) {
            throw new IndexOutOfBoundsException("no such place");
        }
    }

    private void checkVendor(int vendor) {
        if (vendor < 0 || vendor >= vendorCount) {
            throw new IndexOutOfBoundsException("no such vendor");
        }
    }

    private void checkWindow(int window) {
        if (window < 0 || window >= windowCount) {
            throw new IndexOutOfBoundsException("no such window");
        }
    }

    private void checkTape(int tape) {
        if (tape < 0 || tape >= tapeCount) {
            throw new IndexOutOfBoundsException("no such tape");
        }
    }

    private static void checkWare(int ware) {
        checkRange(ware, 0, WARES - 1);
    }

    private static void checkHour(int hour) {
        checkRange(hour, FIRST_HOUR, LAST_HOUR);
    }

    private static void checkRange(int number, int least, int most) {
        if (number < least || number > most) {
            throw new IllegalArgumentException("a number is out of range");
        }
    }

    private static void checkRoom(int count, int most) {
        if (count >= most) {
            throw new IllegalStateException("no more room");
        }
    }

    // ---- what is heard ----

    // An hour, and each question about now, is judged by who is silent and how strong voices are at
    // one moment: a vendor who sells the last piece within the hour still blurs others, and still tires.
    private void listen() {
        for (int i = 0; i < vendorCount; i++) {
            Vendor crier = vendors[i];
            silent[i] = crier.keepsQuiet();
            for (int place = 0; place < street.placeCount; place++) {
                strengths[i][place] = strengthFrom(crier, placeNow(crier), place);
            }
        }
    }

    private int placeNow(Vendor vendor) {
        return vendor.plan[clock.hour - FIRST_HOUR];
    }

    private int strengthFrom(Vendor vendor, int from, int to) {
        int way = street.ways[from][to];
        if (way >= NO_WAY) {
            return 0;
        }
        int strength = vendor.voice() - LOSS_A_METRE * way - wind - street.noises[to];
        if (clock.isNoon()) {
            strength -= LOSS_AT_NOON;
        }
        return Math.max(strength, 0);
    }

    private boolean isHeard(Window window, int vendor) {
        if (!carriesTo(window, vendor)) {
            return false;
        }
        for (int i = 0; i < vendorCount; i++) {
            if (i != vendor && carriesTo(window, i) && vendors[i].cry.isAlike(vendors[vendor].cry)) {
                return false;
            }
        }
        return true;
    }

    private boolean carriesTo(Window window, int vendor) {
        return !silent[vendor] && window.isReachedBy(strengths[vendor][window.place]);
    }

    private boolean isFreeAt(Cry cry, int place) {
        for (int i = 0; i < vendorCount; i++) {
            boolean heard = !silent[i] && strengths[i][place] >= LEAST_STRENGTH_HEARD;
            if (heard && vendors[i].cry.isAlike(cry)) {
                return false;
            }
        }
        return true;
    }

    private int buyersReached(Vendor vendor, int from) {
        int reached = 0;
        for (int i = 0; i < windowCount; i++) {
            Window buyer = windows[i];
            if (buyer.wouldBuyFrom(vendor, clock) && buyer.isReachedBy(strengthFrom(vendor, from, buyer.place))) {
                reached++;
            }
        }
        return reached;
    }

    // ---- how a vendor may walk ----

    // Links may have become longer since the other places were told, so that every step of the day
    // is looked at, not only those to and from the new place.
    private boolean canWalk(Vendor vendor, int from, int until, int place) {
        for (int slot = 1; slot < HOURS_A_DAY; slot++) {
            int here = slot - 1 >= from && slot - 1 < until ? place : vendor.plan[slot - 1];
            int there = slot >= from && slot < until ? place : vendor.plan[slot];
            if (street.ways[here][there] > FARTHEST_IN_AN_HOUR) {
                return false;
            }
        }
        return true;
    }

    // ---- how an hour goes by ----

    private void passOneHour() {
        listen();
        for (int i = 0; i < windowCount; i++) {
            serve(i);
        }
        for (int i = 0; i < tapeCount; i++) {
            writeDown(tapes[i]);
        }
        for (int i = 0; i < vendorCount; i++) {
            if (!silent[i]) {
                strain(i);
            }
        }
        meltStock();
        turnHour();
    }

    private void serve(int window) {
        Window buyer = windows[window];
        for (int i = 0; i < buyer.wantCount; i++) {
            Want want = buyer.wants[i];
            int seller = want.isOpen(clock) ? sellerFor(buyer, want) : -1;
            if (seller >= 0) {
                sell(window, want, seller);
            }
        }
    }

    private int sellerFor(Window window, Want want) {
        int best = -1;
        int cheapest = MOST_PRICE + 1;
        for (int i = 0; i < vendorCount; i++) {
            int price = vendors[i].price;
            if (price < cheapest && canSell(i, window, want) && isHeard(window, i)) {
                best = i;
                cheapest = price;
            }
        }
        return best;
    }

    private boolean canSell(int vendor, Window window, Want want) {
        Vendor seller = vendors[vendor];
        return want.suits(seller)
            && seller.stock > 0
            && window.owed[vendor] < CHALK_LIMIT
            && street.ways[placeNow(seller)][window.place] <= FARTHEST_BASKET;
    }

    private void sell(int window, Want want, int vendor) {
        Vendor seller = vendors[vendor];
        seller.stock--;
        seller.earned += seller.price;
        windows[window].owed[vendor] += seller.price;
        want.fulfilledDay = clock.day;
        ledger.write(window, vendor, seller.price, clock);
    }

    private void writeDown(Tape tape) {
        for (int i = 0; i < vendorCount; i++) {
            if (!silent[i] && strengths[i][tape.place] >= LEAST_STRENGTH_HEARD) {
                tape.add(vendors[i].ware);
            }
        }
    }

    private void strain(int vendor) {
        Vendor crier = vendors[vendor];
        if (strengths[vendor][placeNow(crier)] > limits[clock.hour - FIRST_HOUR]) {
            crier.fines += FINE_FOR_NOISE;
        }
        crier.tired = Math.min(crier.tired + TIRED_BY_AN_HOUR, MOST_TIRED);
    }

    private void meltStock() {
        for (int i = 0; i < vendorCount; i++) {
            if (melts[vendors[i].ware] && vendors[i].stock > 0) {
                vendors[i].stock--;
            }
        }
    }

    private void turnHour() {
        if (clock.hour >= LAST_HOUR) {
            rest();
        }
        clock.advance();
    }

    private void rest() {
        for (int i = 0; i < vendorCount; i++) {
            vendors[i].tired = Math.max(vendors[i].tired - RESTED_BY_A_NIGHT, 0);
        }
    }

    // ---- what is counted ----

    private int owedTo(int vendor) {
        int sum = 0;
        for (int i = 0; i < windowCount; i++) {
            sum += windows[i].owed[vendor];
        }
        return sum;
    }

    // Row by row: the least changes that make each beginning of one tape a beginning of the other.
    private int changesBetween(Tape tape, Tape other) {
        int[] above = changesAbove;
        int[] below = changesBelow;
        for (int j = 0; j <= other.wareCount; j++) {
            above[j] = j;
        }
        for (int i = 0; i < tape.wareCount; i++) {
            below[0] = i + 1;
            for (int j = 0; j < other.wareCount; j++) {
                int kept = above[j] + (tape.wares[i] == other.wares[j] ? 0 : 1);
                int moved = Math.min(above[j + 1], below[j]) + 1;
                below[j + 1] = Math.min(kept, moved);
            }
            int[] done = below;
            below = above;
            above = done;
        }
        return above[other.wareCount];
    }

    private static final class Street {
        final int[] noises = new int[MOST_PLACES];
        final int[][] lengths = new int[MOST_PLACES][MOST_PLACES];
        final int[][] ways = new int[MOST_PLACES][MOST_PLACES];
        int placeCount;

        void addPlace(int noise) {
            noises[placeCount] = noise;
            placeCount++;
            measure();
        }

        void join(int place, int other, int metres) {
            lengths[place][other] = metres;
            lengths[other][place] = metres;
            measure();
        }

        // A new length may be longer than the one before, so that all ways are found anew.
        private void measure() {
            for (int i = 0; i < placeCount; i++) {
                for (int j = 0; j < placeCount; j++) {
                    int direct = lengths[i][j] == 0 ? NO_WAY : lengths[i][j];
                    ways[i][j] = i == j ? 0 : direct;
                }
            }
            for (int over = 0; over < placeCount; over++) {
                shortenOver(over);
            }
        }

        private void shortenOver(int over) {
            for (int i = 0; i < placeCount; i++) {
                for (int j = 0; j < placeCount; j++) {
                    ways[i][j] = Math.min(ways[i][j], ways[i][over] + ways[over][j]);
                }
            }
        }
    }

    private static final class Clock {
        int hour = FIRST_HOUR;
        int day;

        int hoursSinceStart() {
            return HOURS_A_DAY * day + hour - FIRST_HOUR;
        }

        boolean isNoon() {
            return hour >= 11 && hour <= 13;
        }

        int weekdayBit() {
            return 1 << (day % DAYS_A_WEEK);
        }

        void advance() {
            hour++;
            if (hour > LAST_HOUR) {
                hour = FIRST_HOUR;
                day++;
            }
        }
    }

    private static final class Cry {
        final int[] tones = new int[MOST_TONES];
        int toneCount;

        void add(int tone) {
            if (toneCount < MOST_TONES) {
                tones[toneCount] = tone;
                toneCount++;
            }
        }

        void becomeLike(Cry other) {
            System.arraycopy(other.tones, 0, tones, 0, MOST_TONES);
            toneCount = other.toneCount;
        }

        void becomeFreeCry(int rank) {
            int rest = rank;
            for (int i = FREE_CRY_TONES - 1; i >= 0; i--) {
                tones[i] = rest % FREE_CRY_BASE;
                rest /= FREE_CRY_BASE;
            }
            toneCount = FREE_CRY_TONES;
        }

        int digits() {
            int number = 0;
            for (int i = 0; i < toneCount; i++) {
                number = 10 * number + tones[i];
            }
            return number;
        }

        int distanceTo(Cry other) {
            int distance = COST_OF_A_TONE_MORE * Math.abs(toneCount - other.toneCount);
            for (int i = 0; i < toneCount && i < other.toneCount; i++) {
                distance += Math.abs(tones[i] - other.tones[i]);
            }
            return distance;
        }

        boolean isAlike(Cry other) {
            return distanceTo(other) < APART_ENOUGH;
        }
    }

    private static final class Vendor {
        final Cry cry = new Cry();
        final int[] plan = new int[HOURS_A_DAY];
        final boolean[] told = new boolean[HOURS_A_DAY];
        final int[] permitPlaces = new int[MOST_PERMITS];
        final int[] permitFroms = new int[MOST_PERMITS];
        final int[] permitTos = new int[MOST_PERMITS];
        int permitCount;
        int ware;
        int loudness;
        int price;
        int stock;
        int tired;
        int fines;
        int earned;
        int paid;
        boolean hushed;

        void open(int ware, int loudness, int price, int place) {
            this.ware = ware;
            this.loudness = loudness;
            this.price = price;
            tell(0, HOURS_A_DAY, place);
        }

        boolean keepsQuiet() {
            return cry.toneCount == 0 || stock == 0 || hushed;
        }

        int voice() {
            return loudness - tired / TIRED_A_LOUDNESS;
        }

        int nextToldBehind(int slot) {
            int next = slot + 1;
            while (next < HOURS_A_DAY && !told[next]) {
                next++;
            }
            return next;
        }

        void tell(int from, int until, int place) {
            told[from] = true;
            for (int slot = from; slot < until; slot++) {
                plan[slot] = place;
            }
        }

        void addPermit(int place, int from, int to) {
            permitPlaces[permitCount] = place;
            permitFroms[permitCount] = from;
            permitTos[permitCount] = to;
            permitCount++;
        }

        boolean isPermitted(int place, int hour) {
            for (int i = 0; i < permitCount; i++) {
                if (permitPlaces[i] == place && permitFroms[i] <= hour && hour <= permitTos[i]) {
                    return true;
                }
            }
            return false;
        }
    }

    private static final class Want {
        int ware;
        int weekdays;
        int from;
        int to;
        int most;
        int fulfilledDay = -1;

        void begin(int ware, int weekdays, int from, int to, int most) {
            this.ware = ware;
            this.weekdays = weekdays;
            this.from = from;
            this.to = to;
            this.most = most;
        }

        boolean isOpen(Clock clock) {
            boolean holds = (weekdays & clock.weekdayBit()) != 0 && from <= clock.hour && clock.hour <= to;
            return holds && fulfilledDay != clock.day;
        }

        boolean suits(Vendor vendor) {
            return vendor.ware == ware && vendor.price <= most;
        }
    }

    private static final class Window {
        final Want[] wants = new Want[MOST_WANTS];
        final int[] owed = new int[MOST_VENDORS];
        int place;
        int floor;
        int wantCount;

        Window() {
            for (int i = 0; i < MOST_WANTS; i++) {
                wants[i] = new Want();
            }
        }

        boolean isReachedBy(int strength) {
            return strength - LOSS_A_FLOOR * floor >= LEAST_STRENGTH_HEARD;
        }

        boolean wouldBuyFrom(Vendor vendor, Clock clock) {
            for (int i = 0; i < wantCount; i++) {
                if (wants[i].isOpen(clock) && wants[i].suits(vendor)) {
                    return true;
                }
            }
            return false;
        }

        int fulfilledOn(int day) {
            int many = 0;
            for (int i = 0; i < wantCount; i++) {
                if (wants[i].fulfilledDay == day) {
                    many++;
                }
            }
            return many;
        }

        int owedInAll() {
            int sum = 0;
            for (int i = 0; i < MOST_VENDORS; i++) {
                sum += owed[i];
            }
            return sum;
        }
    }

    private static final class Tape {
        final int[] wares = new int[MOST_ON_TAPE];
        int place;
        int wareCount;

        void add(int ware) {
            if (wareCount < MOST_ON_TAPE) {
                wares[wareCount] = ware;
                wareCount++;
            }
        }
    }

    // Only the last sales can be asked for, so that a row is used again for the sale 50 behind it.
    private static final class Ledger {
        private static final int COLUMNS = 5;

        final int[][] columns = new int[COLUMNS][SALES_KEPT];
        int count;
        int sumOfPrices;

        static int columnOf(char what) {
            switch (what) {
                case 'w':
                    return 0;
                case 'v':
                    return 1;
                case 'p':
                    return 2;
                case 'd':
                    return 3;
                case 'h':
                    return 4;
                default:
                    return -1;
            }
        }

        void write(int window, int vendor, int price, Clock clock) {
            int row = count % SALES_KEPT;
            columns[0][row] = window;
            columns[1][row] = vendor;
            columns[2][row] = price;
            columns[3][row] = clock.day;
            columns[4][row] = clock.hour;
            count++;
            sumOfPrices += price;
        }

        boolean keeps(int sale) {
            return sale >= 0 && sale < count && sale >= count - SALES_KEPT;
        }

        int read(int sale, int column) {
            return columns[column][sale % SALES_KEPT];
        }
    }
}
