/** Promises 31 to 33: setLimit, permit, raid. */
public final class LawTest {
    public static void main(String[] args) {
        setLimit();
        permit();
        raid();
        Script.finish("LawTest");
    }

    private static void setLimit() {
        Script.run("promise 31: the one before, hour by hour, and wrong inputs",
            "setLimit(6, 0) = 99; setLimit(6, 5) = 0; setLimit(20, 99) = 99; setLimit(20, 1) = 99; setLimit(7, 4) = 99",
            "setLimit(5, 1) = throws.IllegalArgumentException; setLimit(21, 1) = throws.IllegalArgumentException",
            "setLimit(6, -1) = throws.IllegalArgumentException; setLimit(6, 100) = throws.IllegalArgumentException",
            "setLimit(6, 6) = 5; setLimit(20, 6) = 1; setLimit(-2147483648, 1) = throws.IllegalArgumentException");
    }

    private static void permit() {
        Script.run("promise 32: how many the vendor has, room",
            "2 * place(0) = 1; permit(0, 0, 6, 6) = throws.IndexOutOfBoundsException; 2 * vendor(0, 50, 8, 0) = 1",
            "permit(0, 0, 6, 6) = 1; permit(0, 0, 6, 6) = 2; permit(1, 0, 20, 20) = 1; 4 * permit(0, 1, 6, 20) = 6",
            "permit(0, 0, 6, 6) = throws.IllegalStateException; permit(0, 0, 6, 5) = throws.IllegalArgumentException",
            "permit(0, 2, 6, 6) = throws.IndexOutOfBoundsException; permit(1, 1, 7, 9) = 2");
        Script.run("promise 32: wrong inputs",
            "2 * place(0) = 1; vendor(0, 50, 8, 0) = 0; permit(0, 0, 5, 6) = throws.IllegalArgumentException",
            "permit(0, 0, 21, 21) = throws.IllegalArgumentException; permit(0, 0, 6, 21) = throws.IllegalArgumentException",
            "permit(0, 0, 8, 7) = throws.IllegalArgumentException; permit(1, 0, 5, 4) = throws.IndexOutOfBoundsException",
            "permit(-1, 0, 6, 6) = throws.IndexOutOfBoundsException; permit(0, -1, 6, 6) = throws.IndexOutOfBoundsException",
            "permit(0, 2, 5, 6) = throws.IndexOutOfBoundsException; raid(0) = 1; permit(0, 0, 6, 6) = 1");
    }

    private static void raid() {
        Script.run("promise 33: those who are there, silent or not, again and again",
            "raid(0) = throws.IndexOutOfBoundsException; 3 * place(0) = 2; raid(0) = 0; vendor(0, 50, 8, 0) = 0; vendor(1, 50, 8, 1) = 1",
            "vendor(2, 50, 8, 0) = 2; raid(0) = 2; of(0, 'f') = 30; of(1, 'f') = 0; of(2, 'f') = 30; raid(0) = 2; of(0, 'f') = 60",
            "raid(1) = 1; of(1, 'f') = 30; raid(2) = 0; raid(3) = throws.IndexOutOfBoundsException",
            "raid(-1) = throws.IndexOutOfBoundsException; of(2, 'f') = 60; isSound() = true; of(0, 'e') = 0");
        Script.run("promise 33: who has a permit for the place in the hour of now is not fined",
            "2 * place(0) = 1; link(0, 1, 1) = 0; vendor(0, 50, 8, 0) = 0; permit(0, 0, 7, 8) = 1; permit(0, 1, 6, 6) = 2; raid(0) = 1",
            "pass(1) = 1; raid(0) = 0; pass(1) = 2; raid(0) = 0; pass(1) = 3; raid(0) = 1; permit(0, 0, 9, 9) = 3; raid(0) = 0",
            "pass(1) = 4; raid(0) = 1; pass(12) = 16; hour() = 7; raid(0) = 0; of(0, 'f') = 90");
        Script.run("promise 33: the place of the hour of now",
            "2 * place(0) = 1; link(0, 1, 1) = 0; vendor(0, 50, 8, 0) = 0; goTo(0, 7, 1) = 0; permit(0, 0, 6, 20) = 1; raid(0) = 0; raid(1) = 0",
            "pass(1) = 1; raid(0) = 0; raid(1) = 1; permit(0, 1, 6, 20) = 2; raid(1) = 0; of(0, 'f') = 30");
        Script.run("promise 33: a permit of another one does not help",
            "place(0) = 0; 2 * vendor(0, 50, 8, 0) = 1; permit(1, 0, 6, 20) = 1; raid(0) = 1; of(0, 'f') = 30; of(1, 'f') = 0");
    }
}
