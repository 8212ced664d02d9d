/** Makes formulas from a text: "v0 1 *0,1" is a variable, '1', and the product of both. */
final class Build {
    /** The number of the last one. */
    static int all(Residuary x, String text) {
        int last = -1;
        for (String part : text.trim().split(" ")) {
            char kind = part.charAt(0);
            String[] numbers = part.substring(1).split(",");
            int first = numbers[0].isEmpty() ? 0 : Integer.parseInt(numbers[0]);
            int second = numbers.length > 1 ? Integer.parseInt(numbers[1]) : 0;
            last = x.formula(kind, first, second);
        }
        return last;
    }

    private Build() {
    }
}
