import java.util.ArrayList;
import java.util.HashMap;
import java.util.List;
import java.util.Map;
import java.util.TreeMap;

/** A second street, written from the document alone and for nothing but plainness, to compare with. */
final class Model {
    private static final class Seller {
        int ware;
        int loud;
        int price;
        int stock;
        int tired;
        int fines;
        int sold;
        boolean hushed;
        List<Integer> cry = new ArrayList<>();
        TreeMap<Integer, Integer> told = new TreeMap<>();
        List<int[]> permits = new ArrayList<>();
    }

    private static final class Pane {
        int place;
        int floor;
        List<int[]> wants = new ArrayList<>();
        List<Integer> doneOn = new ArrayList<>();
        int[] owed = new int[8];
    }

    private final List<Integer> noises = new ArrayList<>();
    private final Map<Integer, Integer> links = new HashMap<>();
    private final List<Integer> typed = new ArrayList<>();
    private final List<Seller> sellers = new ArrayList<>();
    private final List<Pane> panes = new ArrayList<>();
    private final List<int[]> sold = new ArrayList<>();
    private final List<Integer> tapePlaces = new ArrayList<>();
    private final List<List<Integer>> tapes = new ArrayList<>();
    private final boolean[] melts = new boolean[6];
    private final Map<Integer, Integer> limits = new HashMap<>();
    private int wind;
    private int hour = 6;
    private int day;

    private static final String INDEX = "throws.IndexOutOfBoundsException";
    private static final String ARGUMENT = "throws.IllegalArgumentException";
    private static final String STATE = "throws.IllegalStateException";
    private static final String NONE = "throws.NoSuchElementException";
    private static final String UNSUPPORTED = "throws.UnsupportedOperationException";

    /** What a call has to answer; a truth counts 1 or 0, a sign its number. */
    String answer(String name, int[] a) {
        switch (name) {
            case "place": return place(a[0]);
            case "link": return link(a[0], a[1], a[2]);
            case "far": return noPlace(a[0]) || noPlace(a[1]) ? INDEX : way(a[0], a[1]) < 0 ? NONE : "" + way(a[0], a[1]);
            case "setWind": return setWind(a[0]);
            case "type": return type(a[0]);
            case "wipe": return wipe();
            case "vendor": return vendor(a[0], a[1], a[2], a[3]);
            case "setCry": return setCry(a[0]);
            case "apart": return apart(a[0], a[1]);
            case "goTo": return goTo(a[0], a[1], a[2]);
            case "at": return noSeller(a[0]) ? INDEX : out(a[1], 6, 20) ? ARGUMENT : "" + whereAt(sellers.get(a[0]).told, a[1]);
            case "setPrice": return setPrice(a[0], a[1]);
            case "stock": return stock(a[0], a[1]);
            case "hush": return hush(a[0], a[1] != 0);
            case "setMelting": return setMelting(a[0], a[1] != 0);
            case "isSilent": return noSeller(a[0]) ? INDEX : "" + silent(a[0]);
            case "of": return of(a[0], (char) a[1]);
            case "strength": return noSeller(a[0]) || noPlace(a[1]) ? INDEX : "" + strong(a[0], a[1]);
            default: return answerMore(name, a);
        }
    }

    private String answerMore(String name, int[] a) {
        switch (name) {
            case "window": return window(a[0], a[1]);
            case "want": return want(a);
            case "hears": return noPane(a[0]) || noSeller(a[1]) ? INDEX : "" + heard(panes.get(a[0]), a[1], silentNow());
            case "fulfilled": return noPane(a[0]) ? INDEX : "" + doneToday(panes.get(a[0]));
            case "owes": return noPane(a[0]) || noSeller(a[1]) ? INDEX : "" + panes.get(a[0]).owed[a[1]];
            case "pay": return pay(a[0], a[1], a[2]);
            case "pass": return pass(a[0]);
            case "hour": return "" + hour;
            case "day": return "" + day;
            case "sales": return "" + sold.size();
            case "sale": return sale(a[0], (char) a[1]);
            case "setLimit": return setLimit(a[0], a[1]);
            case "permit": return permit(a[0], a[1], a[2], a[3]);
            case "raid": return raid(a[0]);
            case "tape": return tape(a[0]);
            case "length": return out(a[0], 0, tapes.size() - 1) ? INDEX : "" + tapes.get(a[0]).size();
            case "wareAt": return wareAt(a[0], a[1]);
            case "differ": return out(a[0], 0, tapes.size() - 1) || out(a[1], 0, tapes.size() - 1) ? INDEX : "" + changes(a[0], a[1]);
            case "nearest": return nearest(a[0]);
            case "freeCry": return freeCry(a[0]);
            case "bestPlace": return bestPlace(a[0]);
            case "checksum": return checksum();
            case "silentShare": return silentShare();
            case "meanPrice": return meanPrice();
            case "isSound": return "true";
            default: throw new IllegalArgumentException(name);
        }
    }

    int places() {
        return noises.size();
    }

    int vendors() {
        return sellers.size();
    }

    int windows() {
        return panes.size();
    }

    int tapeCount() {
        return tapes.size();
    }

    int saleCount() {
        return sold.size();
    }

    private static boolean out(int number, int least, int most) {
        return number < least || number > most;
    }

    private boolean noPlace(int place) {
        return out(place, 0, noises.size() - 1);
    }

    private boolean noSeller(int seller) {
        return out(seller, 0, sellers.size() - 1);
    }

    private boolean noPane(int pane) {
        return out(pane, 0, panes.size() - 1);
    }

    private String place(int noise) {
        if (out(noise, 0, 9)) {
            return ARGUMENT;
        }
        if (noises.size() == 10) {
            return STATE;
        }
        noises.add(noise);
        return "" + (noises.size() - 1);
    }

    private String link(int one, int two, int metres) {
        if (noPlace(one) || noPlace(two)) {
            return INDEX;
        }
        if (one == two || out(metres, 1, 9)) {
            return ARGUMENT;
        }
        int before = links.getOrDefault(one * 100 + two, 0);
        links.put(one * 100 + two, metres);
        links.put(two * 100 + one, metres);
        return "" + before;
    }

    /** By trying all links again and again; -1 without a way. */
    private int way(int from, int to) {
        int[] far = new int[10];
        java.util.Arrays.fill(far, -1);
        far[from] = 0;
        for (int round = 0; round < 10; round++) {
            for (Map.Entry<Integer, Integer> link : links.entrySet()) {
                int start = link.getKey() / 100;
                int end = link.getKey() % 100;
                if (far[start] >= 0 && (far[end] < 0 || far[end] > far[start] + link.getValue())) {
                    far[end] = far[start] + link.getValue();
                }
            }
        }
        return far[to];
    }

    private String setWind(int strength) {
        if (out(strength, 0, 9)) {
            return ARGUMENT;
        }
        int before = wind;
        wind = strength;
        return "" + before;
    }

    private String type(int tone) {
        if (out(tone, 0, 9)) {
            return ARGUMENT;
        }
        if (typed.size() == 8) {
            return STATE;
        }
        typed.add(tone);
        return "" + typed.size();
    }

    private String wipe() {
        int before = typed.size();
        typed.clear();
        return "" + before;
    }

    private String vendor(int ware, int loud, int price, int place) {
        if (noPlace(place)) {
            return INDEX;
        }
        if (out(ware, 0, 5) || out(loud, 10, 60) || out(price, 1, 99)) {
            return ARGUMENT;
        }
        if (sellers.size() == 8) {
            return STATE;
        }
        Seller seller = new Seller();
        seller.ware = ware;
        seller.loud = loud;
        seller.price = price;
        seller.told.put(0, place);
        sellers.add(seller);
        return "" + (sellers.size() - 1);
    }

    private String setCry(int seller) {
        if (noSeller(seller)) {
            return INDEX;
        }
        if (typed.size() < 2) {
            return UNSUPPORTED;
        }
        int before = sellers.get(seller).cry.size();
        sellers.get(seller).cry = new ArrayList<>(typed);
        return "" + before;
    }

    private String apart(int one, int two) {
        if (noSeller(one) || noSeller(two)) {
            return INDEX;
        }
        if (sellers.get(one).cry.isEmpty() || sellers.get(two).cry.isEmpty()) {
            return NONE;
        }
        return "" + apart(sellers.get(one).cry, sellers.get(two).cry);
    }

    private static int apart(List<Integer> one, List<Integer> two) {
        int sum = 0;
        for (int i = 0; i < Math.max(one.size(), two.size()); i++) {
            sum += i < one.size() && i < two.size() ? Math.abs(one.get(i) - two.get(i)) : 4;
        }
        return sum;
    }

    private static int whereAt(TreeMap<Integer, Integer> told, int hour) {
        return told.floorEntry(hour).getValue();
    }

    private String goTo(int seller, int at, int place) {
        if (noSeller(seller) || noPlace(place)) {
            return INDEX;
        }
        if (out(at, 6, 20)) {
            return ARGUMENT;
        }
        TreeMap<Integer, Integer> told = new TreeMap<>(sellers.get(seller).told);
        int before = whereAt(told, at);
        told.put(at, place);
        for (int h = 6; h < 20; h++) {
            int way = way(whereAt(told, h), whereAt(told, h + 1));
            if (way < 0 || way > 12) {
                return UNSUPPORTED;
            }
        }
        sellers.get(seller).told = told;
        return "" + before;
    }

    private String setPrice(int seller, int price) {
        if (noSeller(seller)) {
            return INDEX;
        }
        if (out(price, 1, 99)) {
            return ARGUMENT;
        }
        int before = sellers.get(seller).price;
        sellers.get(seller).price = price;
        return "" + before;
    }

    private String stock(int seller, int many) {
        if (noSeller(seller)) {
            return INDEX;
        }
        if (out(many, 1, 99)) {
            return ARGUMENT;
        }
        if (sellers.get(seller).stock + many > 999) {
            return UNSUPPORTED;
        }
        sellers.get(seller).stock += many;
        return "" + sellers.get(seller).stock;
    }

    private String hush(int seller, boolean is) {
        if (noSeller(seller)) {
            return INDEX;
        }
        boolean before = sellers.get(seller).hushed;
        sellers.get(seller).hushed = is;
        return "" + before;
    }

    private String setMelting(int ware, boolean is) {
        if (out(ware, 0, 5)) {
            return ARGUMENT;
        }
        boolean before = melts[ware];
        melts[ware] = is;
        return "" + before;
    }

    private boolean silent(int number) {
        Seller seller = sellers.get(number);
        return seller.hushed || seller.cry.isEmpty() || seller.stock == 0;
    }

    private boolean[] silentNow() {
        boolean[] now = new boolean[sellers.size()];
        for (int i = 0; i < now.length; i++) {
            now[i] = silent(i);
        }
        return now;
    }

    private int voice(Seller seller) {
        return seller.loud - seller.tired / 4;
    }

    private String of(int number, char what) {
        if (noSeller(number)) {
            return INDEX;
        }
        Seller s = sellers.get(number);
        int[] numbers = {s.stock, s.tired, voice(s), s.fines, s.sold, s.ware};
        int index = "stvfew".indexOf(what);
        return index < 0 ? ARGUMENT : "" + numbers[index];
    }

    private int strongFrom(Seller seller, int from, int to) {
        int way = way(from, to);
        int noon = hour == 11 || hour == 12 || hour == 13 ? 3 : 0;
        int strong = voice(seller) - 5 * way - wind - noises.get(to) - noon;
        return way < 0 || strong < 0 ? 0 : strong;
    }

    private int strong(int seller, int place) {
        return strongFrom(sellers.get(seller), whereAt(sellers.get(seller).told, hour), place);
    }

    private String window(int place, int floor) {
        if (noPlace(place)) {
            return INDEX;
        }
        if (out(floor, 0, 5)) {
            return ARGUMENT;
        }
        if (panes.size() == 12) {
            return STATE;
        }
        Pane pane = new Pane();
        pane.place = place;
        pane.floor = floor;
        panes.add(pane);
        return "" + (panes.size() - 1);
    }

    private String want(int[] a) {
        if (noPane(a[0])) {
            return INDEX;
        }
        if (out(a[1], 0, 5) || out(a[2], 1, 127) || out(a[3], 6, 20) || out(a[4], a[3], 20) || out(a[5], 1, 99)) {
            return ARGUMENT;
        }
        Pane pane = panes.get(a[0]);
        if (pane.wants.size() == 4) {
            return STATE;
        }
        pane.wants.add(a.clone());
        pane.doneOn.add(-1);
        return "" + pane.wants.size();
    }

    private boolean holds(Pane pane, int number) {
        int[] want = pane.wants.get(number);
        return (want[2] >> day % 7) % 2 == 1 && hour >= want[3] && hour <= want[4] && pane.doneOn.get(number) != day;
    }

    private boolean loudEnough(Pane pane, int seller) {
        return strong(seller, pane.place) - 2 * pane.floor >= 10;
    }

    private boolean heard(Pane pane, int seller, boolean[] silent) {
        if (silent[seller] || !loudEnough(pane, seller)) {
            return false;
        }
        for (int other = 0; other < sellers.size(); other++) {
            boolean loud = other != seller && !silent[other] && loudEnough(pane, other);
            if (loud && apart(sellers.get(seller).cry, sellers.get(other).cry) < 6) {
                return false;
            }
        }
        return true;
    }

    private int doneToday(Pane pane) {
        int many = 0;
        for (int done : pane.doneOn) {
            many += done == day ? 1 : 0;
        }
        return many;
    }

    private String pay(int pane, int seller, int sum) {
        if (noPane(pane) || noSeller(seller)) {
            return INDEX;
        }
        if (out(sum, 1, 999)) {
            return ARGUMENT;
        }
        int[] owed = panes.get(pane).owed;
        if (owed[seller] < sum) {
            return UNSUPPORTED;
        }
        owed[seller] -= sum;
        return "" + owed[seller];
    }

    private String pass(int hours) {
        if (out(hours, 1, 60)) {
            return ARGUMENT;
        }
        if ((15 * day + hour - 6 + hours) / 15 > 300) {
            return STATE;
        }
        for (int i = 0; i < hours; i++) {
            anHour(silentNow());
        }
        return "" + (15 * day + hour - 6);
    }

    private void anHour(boolean[] silent) {
        for (int pane = 0; pane < panes.size(); pane++) {
            for (int want = 0; want < panes.get(pane).wants.size(); want++) {
                if (holds(panes.get(pane), want)) {
                    buy(pane, want, silent);
                }
            }
        }
        for (int tape = 0; tape < tapes.size(); tape++) {
            for (int i = 0; i < sellers.size(); i++) {
                if (!silent[i] && strong(i, tapePlaces.get(tape)) >= 10 && tapes.get(tape).size() < 40) {
                    tapes.get(tape).add(sellers.get(i).ware);
                }
            }
        }
        for (int i = 0; i < sellers.size(); i++) {
            Seller seller = sellers.get(i);
            if (!silent[i]) {
                seller.fines += strong(i, whereAt(seller.told, hour)) > limits.getOrDefault(hour, 99) ? 5 : 0;
                seller.tired = Math.min(200, seller.tired + 3);
            }
            seller.stock -= melts[seller.ware] && seller.stock > 0 ? 1 : 0;
            seller.tired = hour == 20 ? Math.max(0, seller.tired - 30) : seller.tired;
        }
        day += hour == 20 ? 1 : 0;
        hour = hour == 20 ? 6 : hour + 1;
    }

    private void buy(int number, int want, boolean[] silent) {
        Pane pane = panes.get(number);
        int[] wanted = pane.wants.get(want);
        int best = -1;
        for (int i = sellers.size() - 1; i >= 0; i--) {
            Seller s = sellers.get(i);
            int way = way(whereAt(s.told, hour), pane.place);
            boolean may = s.ware == wanted[1] && s.stock > 0 && s.price <= wanted[5] && pane.owed[i] < 100;
            if (may && way >= 0 && way <= 2 && heard(pane, i, silent) && (best < 0 || s.price <= sellers.get(best).price)) {
                best = i;
            }
        }
        if (best >= 0) {
            Seller s = sellers.get(best);
            s.stock--;
            s.sold += s.price;
            pane.owed[best] += s.price;
            pane.doneOn.set(want, day);
            sold.add(new int[] {number, best, s.price, day, hour});
        }
    }

    private String sale(int number, char what) {
        int index = "wvpdh".indexOf(what);
        if (index < 0) {
            return ARGUMENT;
        }
        boolean kept = number >= 0 && number < sold.size() && number >= sold.size() - 50;
        return kept ? "" + sold.get(number)[index] : NONE;
    }

    private String setLimit(int at, int limit) {
        if (out(at, 6, 20) || out(limit, 0, 99)) {
            return ARGUMENT;
        }
        int before = limits.getOrDefault(at, 99);
        limits.put(at, limit);
        return "" + before;
    }

    private String permit(int seller, int place, int from, int to) {
        if (noSeller(seller) || noPlace(place)) {
            return INDEX;
        }
        if (out(from, 6, 20) || out(to, from, 20)) {
            return ARGUMENT;
        }
        List<int[]> permits = sellers.get(seller).permits;
        if (permits.size() == 6) {
            return STATE;
        }
        permits.add(new int[] {place, from, to});
        return "" + permits.size();
    }

    private String raid(int place) {
        if (noPlace(place)) {
            return INDEX;
        }
        int fined = 0;
        for (Seller seller : sellers) {
            boolean guilty = whereAt(seller.told, hour) == place;
            for (int[] permit : seller.permits) {
                guilty = guilty && !(permit[0] == place && permit[1] <= hour && permit[2] >= hour);
            }
            seller.fines += guilty ? 30 : 0;
            fined += guilty ? 1 : 0;
        }
        return "" + fined;
    }

    private String tape(int place) {
        if (noPlace(place)) {
            return INDEX;
        }
        if (tapes.size() == 6) {
            return STATE;
        }
        tapePlaces.add(place);
        tapes.add(new ArrayList<>());
        return "" + (tapes.size() - 1);
    }

    private String wareAt(int tape, int index) {
        if (out(tape, 0, tapes.size() - 1)) {
            return INDEX;
        }
        return out(index, 0, tapes.get(tape).size() - 1) ? NONE : "" + tapes.get(tape).get(index);
    }

    private int changes(int one, int two) {
        List<Integer> a = tapes.get(one);
        List<Integer> b = tapes.get(two);
        int[][] least = new int[a.size() + 1][b.size() + 1];
        for (int i = 0; i <= a.size(); i++) {
            for (int j = 0; j <= b.size(); j++) {
                if (i == 0 || j == 0) {
                    least[i][j] = i + j;
                } else {
                    int same = least[i - 1][j - 1] + (a.get(i - 1).equals(b.get(j - 1)) ? 0 : 1);
                    least[i][j] = Math.min(same, 1 + Math.min(least[i - 1][j], least[i][j - 1]));
                }
            }
        }
        return least[a.size()][b.size()];
    }

    private String nearest(int tape) {
        if (out(tape, 0, tapes.size() - 1)) {
            return INDEX;
        }
        int best = -1;
        for (int i = 0; i < tapes.size(); i++) {
            if (i != tape && (best < 0 || changes(tape, i) < changes(tape, best))) {
                best = i;
            }
        }
        return best < 0 ? NONE : "" + best;
    }

    private String freeCry(int place) {
        if (noPlace(place)) {
            return INDEX;
        }
        for (int number = 0; number <= 4444; number++) {
            List<Integer> cry = List.of(number / 1000, number / 100 % 10, number / 10 % 10, number % 10);
            boolean free = cry.get(1) <= 4 && cry.get(2) <= 4 && cry.get(3) <= 4;
            for (int i = 0; free && i < sellers.size(); i++) {
                free = silent(i) || strong(i, place) < 10 || apart(sellers.get(i).cry, cry) >= 6;
            }
            if (free) {
                return "" + number;
            }
        }
        return NONE;
    }

    private String bestPlace(int number) {
        if (noSeller(number)) {
            return INDEX;
        }
        Seller seller = sellers.get(number);
        int best = 0;
        int most = -1;
        for (int place = 0; place < noises.size(); place++) {
            int many = 0;
            for (Pane pane : panes) {
                boolean wants = false;
                for (int i = 0; i < pane.wants.size(); i++) {
                    int[] want = pane.wants.get(i);
                    wants |= holds(pane, i) && want[1] == seller.ware && want[5] >= seller.price;
                }
                many += wants && strongFrom(seller, place, pane.place) - 2 * pane.floor >= 10 ? 1 : 0;
            }
            best = many > most ? place : best;
            most = Math.max(most, many);
        }
        return "" + best;
    }

    private String checksum() {
        long sum = 7;
        for (Seller s : sellers) {
            for (int number : new int[] {s.stock, s.tired, s.fines, s.sold}) {
                sum = 31 * sum + number;
            }
        }
        for (Pane pane : panes) {
            int owed = 0;
            for (int debt : pane.owed) {
                owed += debt;
            }
            sum = 31 * sum + owed;
        }
        for (int number : new int[] {sold.size(), day, hour}) {
            sum = 31 * sum + number;
        }
        return "" + sum;
    }

    private String silentShare() {
        int many = 0;
        for (boolean silent : silentNow()) {
            many += silent ? 1 : 0;
        }
        return sellers.isEmpty() ? "throws.ArithmeticException" : "" + (float) many / (float) sellers.size();
    }

    private String meanPrice() {
        double sum = 0;
        for (int[] sale : sold) {
            sum += sale[2];
        }
        return sold.isEmpty() ? "throws.ArithmeticException" : "" + sum / sold.size();
    }
}
