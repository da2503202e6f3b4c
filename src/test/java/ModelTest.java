import java.util.ArrayList;
import java.util.HashMap;
import java.util.List;
import java.util.Map;
import java.util.Random;

/** Runs of calls by lot, each answered by the class and by the model of the document. */
public final class ModelTest {
    private static final int RUNS = Integer.getInteger("runs", 1500);
    private static final int CALLS = 440;
    private final Random lot;
    private final Pair pair = new Pair();
    private final Model model = pair.model;
    private static final List<String> NAMES = Pair.names();
    private static final Map<String, Integer> SOUND = new HashMap<>();

    private ModelTest(long seed) {
        lot = new Random(seed);
    }

    public static void main(String[] args) throws Exception {
        int wrong = 0;
        for (int run = 0; run < RUNS && wrong < 5; run++) {
            ModelTest test = new ModelTest(run);
            test.run();
            if (!test.pair.isRight()) {
                wrong++;
                System.out.print("run " + run + ": ");
                test.pair.tellLog();
            }
        }
        for (String name : NAMES) {
            if (SOUND.getOrDefault(name, 0) == 0) {
                wrong++;
                System.out.println("no call of " + name + " was answered with more than a refusal");
            }
        }
        System.out.println("ModelTest: " + RUNS + " runs, " + wrong + " wrong");
        System.exit(wrong == 0 ? 0 : 1);
    }

    private void run() throws Exception {
        start();
        int likely = lot.nextInt(5);
        while (pair.isRight() && pair.log.size() < CALLS) {
            int die = lot.nextInt(12);
            if (die == 0) {
                tellText();
            } else if (die == 1 && likely == 0) {
                tellRows();
            } else {
                String name = NAMES.get(lot.nextInt(NAMES.size()));
                call(name, arguments(name, Pair.parameters(name)));
            }
        }
    }

    /** Most runs begin with a town, so that there is something to ask for. */
    private void start() throws Exception {
        if (lot.nextInt(8) == 0) {
            return;
        }
        call("seed", lot.nextInt());
        call("deal", 1 + lot.nextInt(8));
        for (int i = lot.nextInt(11); i > 0; i--) {
            int top = lot.nextBoolean() ? 40 : 99;
            int rooms = lot.nextBoolean() ? 8 : 3;
            call("lock", lot.nextInt(rooms), lot.nextInt(rooms), lot.nextInt(3), lot.nextInt(top));
        }
        for (int i = lot.nextInt(5) == 0 ? 100 : 0; i > 0; i--) {
            call("days", i == 1 ? 60 + lot.nextInt(40) : 100);
        }
    }

    private void call(String name, int... values) throws Exception {
        if (pair.call(name, values) > -1000000000) {
            SOUND.merge(name, 1, Integer::sum);
        }
    }

    /** Mostly within what the call takes, at its edges often enough, and now and then far off. */
    private int upTo(int most) {
        int die = lot.nextInt(40);
        if (die == 0) {
            return -1;
        }
        if (die == 1) {
            return most + 1;
        }
        if (die == 2) {
            return lot.nextBoolean() ? lot.nextInt() : lot.nextBoolean() ? Integer.MIN_VALUE : Integer.MAX_VALUE;
        }
        return lot.nextInt(most + 1);
    }

    private int[] arguments(String name, int many) {
        int[] most = switch (name) {
            case "one" -> new int[] {5, 7, 99, 99, 99};
            case "told" -> new int[] {7, 8};
            case "as", "turns" -> new int[] {7, 5};
            case "set" -> new int[] {7, 4, lot.nextBoolean() ? 7 : 99};
            case "lock" -> new int[] {7, 7, 2, lot.nextBoolean() ? 40 : 99};
            case "about" -> new int[] {9, 5};
            case "sets" -> new int[] {9, 3, lot.nextInt(3) == 0 ? 2 : lot.nextBoolean() ? 7 : 99};
            case "mends" -> new int[] {9};
            case "rule" -> new int[] {1, 100};
            case "at" -> new int[] {7};
            case "deal" -> new int[] {8};
            case "passes" -> new int[] {7, 9};
            case "days" -> new int[] {lot.nextInt(4) == 0 ? 100 : 4};
            case "town" -> new int[] {4};
            case "reach", "pardoned", "fine" -> new int[] {7};
            case "way", "enters" -> new int[] {7, 7};
            case "just" -> new int[] {9, (1 << model.now.people.size()) - 1};
            case "sorry" -> new int[] {7, 9};
            case "behind" -> new int[] {100, 10};
            case "freed" -> new int[] {60, 1};
            case "becomes" -> new int[] {7, 60, 1};
            case "like" -> new int[] {3, 1};
            case "trim" -> new int[] {96};
            case "textTold" -> new int[] {13, 1};
            case "why" -> new int[] {2};
            case "sheet" -> new int[] {3, 1, 24};
            case "mark" -> new int[] {3, 23, lot.nextBoolean() ? 7 : 120};
            case "pour", "reads" -> new int[] {3};
            case "copy" -> new int[] {3, 12, 3, 12, 12};
            case "lay" -> new int[] {4, 3, 7};
            case "ask" -> new int[] {4, 5};
            case "item" -> new int[] {4, 23};
            case "rest" -> new int[] {4, 9};
            case "check" -> new int[] {30};
            case "count" -> new int[] {8};
            default -> new int[many];
        };
        int[] args = new int[many];
        for (int i = 0; i < many; i++) {
            args[i] = most[i] == 0 ? lot.nextInt() : upTo(most[i]);
        }
        return bent(name, args);
    }

    /** Brings some calls to where more comes of them. */
    private int[] bent(String name, int[] args) {
        if (name.equals("mark") && lot.nextInt(6) == 0) {
            int[] edges = {Model.NONE, -99999, 99999, -100000, 100000, 32768, -32769, 65543};
            args[2] = edges[lot.nextInt(edges.length)];
        }
        if (name.equals("mark") && lot.nextInt(3) == 0 && model.isOne(args[1])) {
            args[2] = model.now.people.get(args[1]).room;
        }
        if (name.equals("just") && lot.nextInt(2) == 0 && model.isLock(args[0])) {
            args[1] = model.about(args[0], 5);
        }
        if (name.equals("passes") && lot.nextInt(2) == 0 && model.isOne(args[0])) {
            for (int i = 0; i < model.now.locks.size(); i++) {
                args[1] = model.now.locks.get(i)[0] == model.now.people.get(args[0]).room ? i : args[1];
            }
        }
        if (name.equals("copy") && lot.nextInt(3) == 0) {
            args[2] = args[0];
        }
        if (name.equals("sheet") && lot.nextInt(8) == 0) {
            args[2] = lot.nextInt(4);
        }
        if (name.equals("lay") && args[1] == 3) {
            args[2] = lot.nextInt(6) == 0 ? Integer.MIN_VALUE : lot.nextInt();
        }
        if (name.equals("rest") && lot.nextInt(4) == 0) {
            args[1] = lot.nextInt(3) - 1;
        }
        return args;
    }

    private void tellText() throws Exception {
        call("trim", 0);
        pair.feed(new Writer(lot).text());
        call("text");
    }

    private void tellRows() throws Exception {
        int n = 1 + lot.nextInt(lot.nextInt(4) == 0 ? 30 : 4);
        if (model.image == null || lot.nextInt(3) == 0) {
            call("keep");
        }
        List<Integer> rows = new ArrayList<>(Model.rows(model.image, n));
        int bend = lot.nextInt(6);
        if (bend == 0 && !rows.isEmpty()) {
            rows.remove(rows.size() - 1);
        } else if (bend == 1) {
            rows.add(7);
        } else if (bend == 2 && !rows.isEmpty()) {
            int at = lot.nextInt(rows.size());
            rows.set(at, rows.get(at) + 1);
        }
        for (int v : rows) {
            call("tell", v);
        }
        call("check", n);
    }

    /** Writes texts by lot, most of them sound, some bent in one place. */
    private static final class Writer {
        private final Random lot;
        private final StringBuilder out = new StringBuilder();
        private int key;

        Writer(Random lot) {
            this.lot = lot;
        }

        String text() {
            key = lot.nextInt(3);
            blanks();
            out.append(new String[] {"wear", "fee", "fine"}[key]);
            if (lot.nextInt(10) != 0) {
                out.append(' ');
            }
            expression(lot.nextInt(6));
            blanks();
            for (int bends = lot.nextInt(4) == 0 ? 1 + lot.nextInt(2) : 0; bends > 0 && out.length() > 0; bends--) {
                bend();
            }
            if (lot.nextInt(12) == 0) {
                nest();
            }
            return out.length() > 96 ? out.substring(0, 96) : out.toString();
        }

        private void nest() {
            out.setLength(0);
            out.append(new String[] {"wear", "fee", "fine"}[key]);
            int open = 0;
            for (int n = 4 + lot.nextInt(16); n > 0; n--) {
                boolean not = lot.nextBoolean();
                out.append(not ? "!" : lot.nextInt(3) == 0 ? "(1+" : "(");
                open += not ? 0 : 1;
            }
            out.append(lot.nextInt(10000));
            while (open > 0) {
                out.append(lot.nextInt(5) == 0 ? "-1" : "").append(")");
                open--;
            }
            out.append(lot.nextInt(5) == 0 ? "+!1" : "");
        }

        private void bend() {
            int at = lot.nextInt(out.length());
            String signs = "()!+-*/<=>|& 0129rstehoaw~A\0\u00e9";
            char sign = signs.charAt(lot.nextInt(signs.length()));
            switch (lot.nextInt(4)) {
                case 0: out.deleteCharAt(at); break;
                case 1: out.insert(at, sign); break;
                case 2: out.setLength(at); break;
                default: out.setCharAt(at, sign); break;
            }
        }

        private void blanks() {
            if (lot.nextInt(4) == 0) {
                out.append(lot.nextBoolean() ? " " : "  ");
            }
        }

        private void expression(int depth) {
            piece(depth);
            for (int n = lot.nextInt(4); n > 0; n--) {
                blanks();
                out.append("+-*/<=>|&+-*/".charAt(lot.nextInt(13)));
                blanks();
                piece(depth);
            }
        }

        private void piece(int depth) {
            int die = lot.nextInt(depth > 0 ? 6 : 4);
            if (die < 2) {
                out.append(lot.nextBoolean() ? lot.nextInt(10) : lot.nextInt(lot.nextInt(8) == 0 ? 12000 : 3000));
            } else if (die < 4) {
                String names = lot.nextInt(20) == 0 ? "rstehox" : new String[] {"rst", "eh", "ro"}[key];
                out.append(names.charAt(lot.nextInt(names.length())));
            } else if (die == 4) {
                out.append('!');
                blanks();
                piece(depth - 1);
            } else {
                out.append('(');
                blanks();
                expression(depth - 1);
                blanks();
                out.append(')');
            }
        }
    }
}
