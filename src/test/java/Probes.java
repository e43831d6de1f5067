import java.util.ArrayList;
import java.util.List;

/** Calls that together ask for everything that an object holds; the later ones change it for that. */
final class Probes {
    private static final int DAYS_A_WEEK = 7;

    private Probes() {
    }

    static List<String> all() {
        List<String> calls = new ArrayList<>();
        addQuestions(calls);
        addQuestionsThatChange(calls);
        return calls;
    }

    /** Those that change nothing. */
    static void addQuestions(List<String> calls) {
        for (String call : "hour() day() sales() checksum() silentShare() meanPrice() isSound()".split(" ")) {
            calls.add(call);
        }
        for (int i = 0; i < 10; i++) {
            calls.add("freeCry(" + i + ")");
            for (int j = 0; j < 10; j++) {
                calls.add("far(" + i + ", " + j + ")");
            }
        }
        for (int i = 0; i < 8; i++) {
            addVendor(calls, i);
        }
        for (int i = 0; i < 12; i++) {
            calls.add("fulfilled(" + i + ")");
            for (int j = 0; j < 8; j++) {
                calls.add("hears(" + i + ", " + j + ")");
                calls.add("owes(" + i + ", " + j + ")");
            }
        }
        addTapesAndSales(calls);
    }

    private static void addVendor(List<String> calls, int vendor) {
        calls.add("isSilent(" + vendor + ")");
        calls.add("bestPlace(" + vendor + ")");
        for (char what : "stvfew".toCharArray()) {
            calls.add("of(" + vendor + ", '" + what + "')");
        }
        for (int i = 0; i < 10; i++) {
            calls.add("strength(" + vendor + ", " + i + ")");
        }
        for (int i = 0; i < 8; i++) {
            calls.add("apart(" + vendor + ", " + i + ")");
        }
        for (int i = 6; i <= 20; i++) {
            calls.add("at(" + vendor + ", " + i + ")");
        }
    }

    private static void addTapesAndSales(List<String> calls) {
        for (int i = 0; i < 6; i++) {
            calls.add("length(" + i + ")");
            calls.add("nearest(" + i + ")");
            for (int j = 0; j < 6; j++) {
                calls.add("differ(" + i + ", " + j + ")");
            }
            for (int j = 0; j < 41; j++) {
                calls.add("wareAt(" + i + ", " + j + ")");
            }
        }
        for (int i = 0; i < 120; i++) {
            for (char what : "wvpdh".toCharArray()) {
                calls.add("sale(" + i + ", '" + what + "')");
            }
        }
    }

    /** What only a change shows: links, tones, hush, melting, limits, prices, permits, plans and wants. */
    private static void addQuestionsThatChange(List<String> calls) {
        for (int day = 0; day < DAYS_A_WEEK; day++) {
            calls.add("pass(15)");
            calls.add("sales()");
            calls.add("checksum()");
        }
        calls.add("wipe()");
        calls.add("setWind(0)");
        for (int i = 0; i < 6; i++) {
            calls.add("setMelting(" + i + ", false)");
            calls.add("tape(0)");
        }
        for (int i = 6; i <= 20; i++) {
            calls.add("setLimit(" + i + ", 0)");
        }
        for (int i = 0; i < 8; i++) {
            calls.add("hush(" + i + ", false)");
            calls.add("setPrice(" + i + ", 1)");
            calls.add("goTo(" + i + ", 6, 0)");
            calls.add("at(" + i + ", 20)");
            calls.add("permit(" + i + ", 0, 6, 6)");
        }
        for (int i = 0; i < 12; i++) {
            calls.add("want(" + i + ", 0, 127, 6, 20, 1)");
        }
        for (int hour = 0; hour < 15; hour++) {
            for (int i = 0; i < 10; i++) {
                calls.add("raid(" + i + ")");
            }
            calls.add("pass(1)");
        }
        for (int i = 0; i < 10; i++) {
            for (int j = 0; j < i; j++) {
                calls.add("link(" + i + ", " + j + ", 1)");
            }
        }
        calls.add("vendor(0, 10, 1, 0)");
        calls.add("window(0, 0)");
        calls.add("place(0)");
        calls.add("checksum()");
    }
}
