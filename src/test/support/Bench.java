/** What all tests share: texts put on an object's tape, answers compared with those that are due. */
final class Bench {
    private int wrong;
    private int compared;

    /** The text is put on the tape, which is empty. */
    static void tell(HundredWords words, String text) {
        int[] numbers = new int[5];
        for (int first = 0; first < text.length(); first += 20) {
            for (int k = 0; k < 5; k++) {
                numbers[k] = 0;
                for (int j = 0; j < 4; j++) {
                    int at = first + 4 * k + j;
                    numbers[k] = numbers[k] << 8 | (at < text.length() ? text.charAt(at) & 255 : 32);
                }
            }
            words.feed(numbers[0], numbers[1], numbers[2], numbers[3], numbers[4]);
        }
        words.end(text.length());
    }

    void due(String call, long got, long want) {
        compared++;
        if (got != want) {
            wrong++;
            System.out.println(call + " answered " + got + ", due is " + want);
        }
    }

    void due(String call, boolean got, boolean want) {
        due(call, got ? 1 : 0, want ? 1 : 0);
    }

    void finish(String name) {
        System.out.println(name + ": " + compared + " answers, " + wrong + " wrong");
        if (wrong > 0) {
            System.exit(1);
        }
    }
}
