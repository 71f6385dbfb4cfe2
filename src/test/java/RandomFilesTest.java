import java.util.Arrays;

/** Every promise: files made by chance are read by the program and by the oracle, and all is asked of both. */
final class RandomFilesTest {
    private static final int FILES = 20000;
    private static final Checker CHECK = new Checker();
    private static final int[] SEEN = new int[21];

    public static void main(String[] args) {
        int files = args.length > 0 ? Integer.parseInt(args[0]) : FILES;
        SampleFile before = new SampleFile();
        for (int seed = 0; seed < files; seed++) {
            RandomFile file = new RandomFile(seed);
            SEEN[new Comparison(CHECK, "file " + seed, file.words, file.sectors, before).run()]++;
            before = new SampleFile().write(0, file.words).sectors(file.sectors);
        }
        for (int rule = 0; rule < SEEN.length; rule++) {
            CHECK.due("rule " + rule + " is met", SEEN[rule] > 0, true);
        }
        if (args.length > 0) {
            System.out.println("rules met: " + Arrays.toString(SEEN));
        }
        CHECK.finish();
    }
}
