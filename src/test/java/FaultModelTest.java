import java.util.Random;

/** Promises 4 and 5: texts by a seed, good ones and spoiled ones, each with the FAULT and the place of the model. */
public final class FaultModelTest {
    public static void main(String[] args) {
        int runs = args.length > 0 ? Integer.parseInt(args[0]) : 6000;
        int[] seen = new int[7];
        for (int seed = 0; seed < runs; seed++) {
            Random random = new Random(seed);
            RandomTown towns = new RandomTown(random, 1 + seed % 8, seed / 8 % 9);
            String text = random.nextInt(5) == 0 ? towns.text() : towns.spoiled();
            if (text.length() > 1600) {
                continue;
            }
            OwnChair x = new OwnChair();
            int statements = Check.town(x, text);
            ModelText model = new ModelText(text);
            int due = model.read();
            seen[model.fault]++;
            Check.due("seed " + seed + " town of " + text, statements, model.fault == 0 ? due : -1);
            Check.due("seed " + seed + " fault(0) of " + text, x.fault(0), model.fault);
            Check.due("seed " + seed + " fault(1) of " + text, x.fault(1), model.place);
        }
        for (int fault = 0; fault < seen.length; fault++) {
            Check.due("texts with fault " + fault + " were among them", seen[fault] > 0, true);
        }
        System.out.println(java.util.Arrays.toString(seen));
        Check.finish();
    }
}
