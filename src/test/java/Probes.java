import java.util.ArrayList;
import java.util.Arrays;
import java.util.HashMap;
import java.util.HashSet;
import java.util.List;
import java.util.Map;
import java.util.Set;

/** Calls that together ask for everything that an object holds; the later ones change objects for that. */
final class Probes {
    private static final int DAYS_A_WEEK = 7;
    private static final int SALES_ASKED = 52;
    private static final int MOST_VENDORS = 8;

    private static final Map<String, Probes> KNOWN = new HashMap<>();

    private final int places;
    private final int vendors;
    private final int windows;
    private final int tapes;
    private final int sales;
    private final List<String> calls = new ArrayList<>();
    private final Set<Integer> anew = new HashSet<>();
    private final int firstThatChanges;

    private Probes(int places, int vendors, int windows, int tapes, int sales) {
        this.places = places;
        this.vendors = vendors;
        this.windows = windows;
        this.tapes = tapes;
        this.sales = sales;
        addQuestions();
        firstThatChanges = calls.size();
        addHours();
        addSettings();
        addOneMore();
    }

    /** For an object that has seen these calls: what it has, and of everything one more. */
    static Probes behind(List<String> past) {
        Cryway street = new Cryway();
        for (String call : past) {
            Script.answer(street, call);
        }
        int[] counts = {many(past, "place("), many(past, "vendor("), many(past, "window("), many(past, "tape("), street.sales()};
        String key = Arrays.toString(counts);
        return KNOWN.computeIfAbsent(key, k -> new Probes(counts[0], counts[1], counts[2], counts[3], counts[4]));
    }

    int size() {
        return calls.size();
    }

    String call(int i) {
        return calls.get(i);
    }

    /** Whether a new object is to be asked from this call on: one that the calls before it have not changed. */
    boolean beginsAnew(int i) {
        return anew.contains(i);
    }

    boolean changes(int i) {
        return i >= firstThatChanges;
    }

    private static int many(List<String> past, String begin) {
        int many = 0;
        for (String call : past) {
            if (call.startsWith(begin)) {
                many++;
            }
        }
        return many;
    }

    private void add(String name, Object... numbers) {
        StringBuilder text = new StringBuilder(name).append('(');
        for (int i = 0; i < numbers.length; i++) {
            text.append(i == 0 ? "" : ", ").append(numbers[i]);
        }
        calls.add(text.append(')').toString());
    }

    private void addQuestions() {
        for (String name : "hour day sales checksum silentShare meanPrice isSound".split(" ")) {
            add(name);
        }
        for (int i = 0; i < places; i++) {
            add("freeCry", i);
            for (int j = 0; j < places; j++) {
                add("far", i, j);
            }
        }
        add("far", places, places);
        for (int i = 0; i < vendors; i++) {
            addVendor(i);
        }
        add("of", vendors, "'s'");
        for (int i = 0; i < windows; i++) {
            add("fulfilled", i);
            for (int j = 0; j < vendors; j++) {
                add("hears", i, j);
                add("owes", i, j);
            }
        }
        add("fulfilled", windows);
        addTapesAndSales();
    }

    private void addVendor(int vendor) {
        add("isSilent", vendor);
        add("bestPlace", vendor);
        for (char what : "stvfew".toCharArray()) {
            add("of", vendor, "'" + what + "'");
        }
        for (int i = 0; i < places; i++) {
            add("strength", vendor, i);
        }
        for (int i = 0; i < vendors; i++) {
            add("apart", vendor, i);
        }
        for (int hour = 6; hour <= 20; hour++) {
            add("at", vendor, hour);
        }
    }

    private void addTapesAndSales() {
        for (int i = 0; i < tapes; i++) {
            add("length", i);
            add("nearest", i);
            for (int j = 0; j < tapes; j++) {
                add("differ", i, j);
            }
            for (int j = 0; j < 41; j++) {
                add("wareAt", i, j);
            }
        }
        add("length", tapes);
        for (int i = Math.max(0, sales - SALES_ASKED); i <= sales; i++) {
            for (char what : "wvpdh".toCharArray()) {
                add("sale", i, "'" + what + "'");
            }
        }
    }

    /** What only the hours to come show: wants, limits, what melts, plans, tapes and permits. */
    private void addHours() {
        beginAnew();
        for (int day = 0; day < DAYS_A_WEEK; day++) {
            add("pass", 15);
            add("sales");
            add("checksum");
            for (int i = 0; i < tapes; i++) {
                add("length", i);
            }
            for (int i = 0; i < windows; i++) {
                add("fulfilled", i);
            }
        }
        beginAnew();
        for (int hour = 6; hour <= 20; hour++) {
            for (int i = 0; i < places; i++) {
                add("raid", i);
            }
            add("pass", 1);
        }
        add("checksum");
    }

    /** What only another one in its place shows: the wind, what melts, limits, prices, and the typed tones. */
    private void addSettings() {
        beginAnew();
        add("setWind", 0);
        for (int i = 0; i < 6; i++) {
            add("setMelting", i, false);
        }
        for (int hour = 6; hour <= 20; hour++) {
            add("setLimit", hour, 0);
        }
        for (int i = 0; i < vendors; i++) {
            add("hush", i, false);
            add("setPrice", i, 1);
        }
        addTypedTones();
        beginAnew();
        for (int i = 0; i < places; i++) {
            for (int j = 0; j < i; j++) {
                add("link", i, j, 1);
            }
        }
        for (int i = 0; i < vendors; i++) {
            add("goTo", i, 6, 0);
            add("at", i, 20);
        }
    }

    /** The last vendor takes the typed tones, and then two of 0, so that each cry is compared with both. */
    private void addTypedTones() {
        int last = Math.min(vendors, MOST_VENDORS - 1);
        if (last == vendors) {
            add("vendor", 0, 10, 1, 0);
        }
        add("setCry", last);
        for (int i = 0; i <= last; i++) {
            add("apart", last, i);
        }
        add("wipe");
        add("type", 0);
        add("type", 0);
        add("setCry", last);
        for (int i = 0; i < last; i++) {
            add("apart", last, i);
        }
    }

    /** How many there are of each, by the number of one more, as far as there is room. */
    private void addOneMore() {
        beginAnew();
        for (int i = 0; i < windows; i++) {
            add("want", i, 0, 127, 6, 20, 1);
        }
        for (int i = 0; i < vendors; i++) {
            add("permit", i, 0, 6, 6);
        }
        add("type", 0);
        add("vendor", 0, 10, 1, 0);
        add("window", 0, 0);
        add("tape", 0);
        add("place", 0);
        add("checksum");
    }

    private void beginAnew() {
        anew.add(calls.size());
    }
}
