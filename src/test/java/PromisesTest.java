public final class PromisesTest {
    public static void main(String[] args) {
        HundredWords x = new HundredWords();
        if (x.has(4) != 40) {
            System.out.println("has(4) answered " + x.has(4));
            System.exit(1);
        }
    }
}
