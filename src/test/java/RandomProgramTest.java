import java.util.List;
import java.util.Random;

/**
 * Random programs with the trees or faults that are due for them, and the same programs cut short
 * and spoilt: what stands before a fault must stay without one.
 */
public final class RandomProgramTest {
    private static final Check CHECK = new Check();
    private static final int[] SEEN = new int[7];
    private static int good = 0;
    private static int most = 0;

    public static void main(String[] args) {
        int rounds = args.length > 0 ? Integer.parseInt(args[0]) : 6000;
        for (int seed = 0; seed < rounds; seed++) {
            whole(seed, 0, seed % 5 == 4);
            whole(seed + 1000000L, 20, seed % 5 == 4);
        }
        System.out.println("good " + good + ", most nodes " + most + ", faults " + java.util.Arrays.toString(SEEN));
        for (int kind = 1; kind <= 6; kind++) {
            CHECK.due("faults of kind " + kind + " were made", SEEN[kind] > 10, true);
        }
        CHECK.end("RandomProgramTest");
    }

    private static void whole(long seed, int oneFaultIn, boolean deep) {
        Gen gen = new Gen(seed, oneFaultIn, deep);
        Gen.Node root = gen.program(deep ? 60 : 12);
        if (gen.tokens.size() > 3000) {
            return;
        }
        CoreSyntax x = new CoreSyntax();
        give(x, gen.tokens, gen.tokens.size());
        int nodes = x.parse();
        if (gen.faultKind != 0) {
            SEEN[gen.faultKind]++;
            CHECK.due("fault, seed " + seed, x.fault(0) + " at " + x.fault(1), gen.faultKind + " at " + gen.faultPlace);
            CHECK.due("no tree, seed " + seed, nodes, -1);
        } else {
            good++;
            compare(x, seed, nodes, Gen.rows(root));
            for (int name = 0; name < 40; name++) {
                if (x.fixity(name) != gen.fix[name]) {
                    CHECK.due("fixity of " + name + ", seed " + seed, x.fixity(name), gen.fix[name]);
                }
            }
        }
        spoil(gen, seed);
    }

    private static void give(CoreSyntax x, List<int[]> tokens, int many) {
        for (int[] token : tokens.subList(0, many)) {
            x.token(token[0], token[1], token[2]);
        }
    }

    private static void compare(CoreSyntax x, long seed, int nodes, List<int[]> rows) {
        most = Math.max(most, nodes);
        CHECK.due("nodes, seed " + seed + (nodes < 0 ? " fault " + x.fault(0) + " at " + x.fault(1) : ""), nodes, rows.size());
        for (int i = 0; i < rows.size() && i < nodes; i++) {
            for (int what = 0; what < 5; what++) {
                if (x.node(i, what) != rows.get(i)[what]) {
                    CHECK.due("node " + i + " what " + what + ", seed " + seed, x.node(i, what), rows.get(i)[what]);
                    return;
                }
            }
        }
    }

    private static void spoil(Gen gen, long seed) {
        Random random = new Random(seed);
        int usable = gen.faultKind == 0 ? gen.tokens.size() : gen.faultPlace;
        for (int turn = 0; turn < 3; turn++) {
            int place = random.nextInt(usable + 1);
            CoreSyntax x = new CoreSyntax();
            give(x, gen.tokens, place);
            x.parse();
            boolean fine = x.fault(0) == 0 || x.fault(0) == 1 && x.fault(1) == place;
            CHECK.due("cut at " + place + ", seed " + seed, fine ? "fine" : x.fault(0) + " at " + x.fault(1), "fine");

            x.retreat();
            give(x, gen.tokens, place);
            x.token(1, 49 + random.nextInt(10), -1);
            give(x, gen.tokens.subList(place, gen.tokens.size()), Math.min(gen.tokens.size() - place, 2999 - place));
            x.parse();
            CHECK.due("a word that stands nowhere, seed " + seed, x.fault(0) + " at " + x.fault(1), "1 at " + place);

            if (place < usable) {
                give(x, gen.tokens, place);
                if (random.nextBoolean()) {
                    x.token(1, 1 + random.nextInt(48), -1);
                } else {
                    x.token(2 + random.nextInt(2), random.nextInt(35), -1);
                }
                give(x, gen.tokens.subList(place + 1, gen.tokens.size()), gen.tokens.size() - place - 1);
                x.parse();
                boolean late = x.fault(0) == 0 || x.fault(1) >= place;
                CHECK.due("another token at " + place + ", seed " + seed, late, true);
            }
        }
    }
}
