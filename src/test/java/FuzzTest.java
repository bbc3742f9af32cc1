import java.util.Arrays;
import java.util.Random;

/** Random calls with any arguments: none may throw, and what they answer must fit together. */
public final class FuzzTest {
    private static final Check CHECK = new Check();
    private static final int[] ODD = {
        -1, 0, 1, 2, 3, 4, 5, 8191, 8192, 32767, 32768, -2, Integer.MAX_VALUE, Integer.MIN_VALUE
    };

    public static void main(String[] args) {
        for (int seed = 0; seed < 3000; seed++) {
            try {
                run(new Random(seed), seed);
            } catch (RuntimeException | StackOverflowError thrown) {
                CHECK.due("thrown, seed " + seed, thrown.toString(), "nothing");
            }
        }
        for (int seed = 0; seed < 60; seed++) {
            twice(seed);
        }
        CHECK.end("FuzzTest");
    }

    private static int any(Random random) {
        return random.nextInt(4) == 0 ? ODD[random.nextInt(ODD.length)] : random.nextInt(60);
    }

    private static void run(Random random, int seed) {
        CoreSyntax x = new CoreSyntax();
        int tokens = 0;
        for (int call = 0; call < 512; call++) {
            int one = any(random);
            int other = any(random);
            switch (random.nextInt(30)) {
                case 0: {
                    int nodes = x.parse();
                    tokens = 0;
                    CHECK.due("nodes, seed " + seed, x.nodes(), Math.max(nodes, 0));
                    CHECK.due("fault or tree, seed " + seed, x.fault(0) == 0, nodes > 0);
                    CHECK.due("fault place, seed " + seed, x.fault(1) == -1, nodes > 0);
                    CHECK.due("behind the root, seed " + seed, x.behind(0), nodes);
                    break;
                }
                case 1:
                    x.node(one, other);
                    x.item(one, other);
                    break;
                case 2:
                    x.same(one, other);
                    x.same(random.nextInt(Math.max(1, x.nodes())), random.nextInt(Math.max(1, x.nodes())));
                    break;
                case 3:
                    x.length(one);
                    x.behind(other);
                    x.fault(one);
                    x.fixity(other);
                    x.fresh();
                    break;
                case 4:
                    x.retreat();
                    break;
                case 5:
                    x.token(any(random), one, other);
                    tokens = x.tokens();
                    break;
                default:
                    tokens += put(x, random) > 0 ? 1 : 0;
                    CHECK.due("tokens, seed " + seed, x.tokens(), tokens);
            }
        }
    }

    /** A token that is one, of those that programs have most. */
    private static int put(CoreSyntax x, Random random) {
        switch (random.nextInt(4)) {
            case 0:
                return x.token(2 + random.nextInt(2), random.nextInt(30), -1);
            case 1:
                return x.token(6, random.nextInt(9), random.nextInt(12) - 1);
            case 2:
                return x.token(4 + random.nextInt(6), random.nextInt(30), -1);
            default:
                return x.token(1, 1 + random.nextInt(50), -1);
        }
    }

    /** A text of 3000 tokens, read by a new object and by one that has read others before. */
    private static void twice(int seed) {
        CoreSyntax used = new CoreSyntax();
        for (int round = 0; round < 3; round++) {
            CoreSyntax one = new CoreSyntax();
            for (CoreSyntax x : Arrays.asList(one, used)) {
                Random random = new Random(seed * 10L + round);
                Gen gen = new Gen(random.nextLong(), 0, false);
                for (int k = 0; k < 40 && gen.tokens.size() < 2200; k++) {
                    gen.program(12);
                    gen.tokens.add(new int[] {1, 41, -1});
                }
                int many = Math.min(3000, gen.tokens.size());
                for (int[] token : gen.tokens.subList(0, many)) {
                    x.token(token[0], token[1], token[2]);
                }
                x.parse();
            }
            CHECK.due("fault, seed " + seed, used.fault(0), one.fault(0));
            CHECK.due("fault's place, seed " + seed, used.fault(1), one.fault(1));
            CHECK.due("nodes, seed " + seed, used.nodes(), one.nodes());
            CHECK.due("fresh, seed " + seed, used.fresh(), one.fresh());
            int differing = 0;
            for (int i = 0; i < one.nodes(); i++) {
                for (int what = 0; what < 5; what++) {
                    differing += one.node(i, what) == used.node(i, what) ? 0 : 1;
                }
            }
            CHECK.due("nodes that differ, seed " + seed, differing, 0);
            used.retreat();
            for (int name = 0; name < 40; name++) {
                CHECK.due("fixity behind retreat, seed " + seed, used.fixity(name), new CoreSyntax().fixity(name));
            }
        }
    }
}
