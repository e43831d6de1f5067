/** What promise 41 says of a sum over the street. */
final class Sums {
    private Sums() {
    }

    static long fold(long... numbers) {
        long sum = 7;
        for (long number : numbers) {
            sum = 31 * sum + number;
        }
        return sum;
    }
}
