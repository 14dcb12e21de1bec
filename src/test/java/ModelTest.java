/** Runs of calls, the same ones each time, on the program and on the model: all answers are alike. */
final class ModelTest {
    private static final int RUNS = 1200;
    private static final int CALLS = 512;
    private static final String[] NAMES = {"stratum", "cut", "ground", "at", "set", "count", "pile", "pileOf", "blow",
        "strike", "drive", "would", "fallFor", "blowsTo", "test", "undo", "runs", "run", "order", "leastLift", "type",
        "clearText", "fault", "carry"};
    private static final int[][] WEIGHTS = {
        {6, 1, 4, 4, 8, 8, 10, 20, 6, 14, 8, 4, 4, 4, 8, 4, 4, 6, 2, 2, 0, 0, 0, 0},
        {2, 0, 2, 1, 3, 4, 4, 12, 6, 4, 12, 2, 1, 2, 6, 2, 8, 14, 1, 1, 0, 0, 0, 0},
        {2, 0, 1, 0, 4, 6, 5, 10, 2, 2, 1, 0, 0, 0, 3, 3, 1, 1, 1, 1, 30, 2, 8, 8},
        {2, 1, 1, 0, 4, 4, 8, 8, 0, 1, 1, 0, 0, 0, 8, 6, 0, 0, 16, 12, 0, 0, 0, 0}
    };
    private static final int[] LEAST = {100, 10, 0, 100, 0, 0};
    private static final int[] MOST = {10000, 100, 50, 500, 10000, 50};

    private long seed;
    private PileSets sets = new PileSets();
    private Model model = new Model();
    private int wanted = 0;
    private String toType = "";

    private ModelTest(long seed) {
        this.seed = seed * 7919 + 17;
    }

    public static void main(String[] args) {
        int[] answered = new int[NAMES.length];
        for (int run = 0; run < RUNS && Due.wrongOnes() == 0; run++) {
            new ModelTest(run).runCalls(run, answered);
        }
        for (int i = 0; i < NAMES.length; i++) {
            Due.dueTrue(NAMES[i] + " was called without an error", answered[i] > 100);
        }
        Due.end("ModelTest");
    }

    private void runCalls(int run, int[] answered) {
        int[] weights = WEIGHTS[run % WEIGHTS.length];
        StringBuilder told = new StringBuilder();
        for (int call = 0; call < CALLS; call++) {
            int method = chooseMethod(weights);
            int[] a = arguments(method);
            long got = call(method, a[0], a[1], a[2], a[3]);
            long want = model.call(method, a[0], a[1], a[2], a[3]);
            String text = NAMES[method] + "(" + a[0] + ", " + a[1] + ", " + a[2] + ", " + a[3] + ")";
            told.append(text).append(" = ").append(want).append('\n');
            Due.due("run " + run + ", call " + call + ": " + text, got, want);
            if (got != want) {
                System.out.println(told);
                return;
            }
            answered[method] += got >= 0 ? 1 : 0;
        }
    }

    private int next(int bound) {
        seed = seed * 6364136223846793005L + 1442695040888963407L;
        return (int) ((seed >>> 33) % bound);
    }

    private int between(int least, int most) {
        return least + next(most - least + 1);
    }

    private int chooseMethod(int[] weights) {
        int sum = 0;
        for (int weight : weights) {
            sum += weight;
        }
        int left = next(sum);
        int method = 0;
        while (left >= weights[method]) {
            left -= weights[method];
            method++;
        }
        return method;
    }

    /** Mostly within the range, now and then at its edge, seldom out of it. */
    private int in(int least, int most) {
        switch (next(40)) {
            case 0: return least - 1;
            case 1: return most + 1;
            case 2:
            case 3: return least;
            case 4:
            case 5: return most;
            case 6: return next(4) == 0 ? (next(2) == 0 ? Integer.MIN_VALUE : Integer.MAX_VALUE) : least;
            default: return between(least, most);
        }
    }

    private int pile() {
        int piles = (int) model.call(5, 1, 0, 0, 0);
        return next(30) == 0 ? between(-1, 10) : next(Math.max(1, piles));
    }

    private int fall() {
        return next(3) == 0 ? in(100, 600) : in(100, 3000);
    }

    private int[] arguments(int method) {
        switch (method) {
            case 0: return stratumArguments();
            case 2: return new int[] {in(0, 3), in(0, 3), 0, 0};
            case 3: return new int[] {next(3) == 0 ? in(0, 200000) : in(0, 30000), 0, 0, 0};
            case 4:
                int what = in(0, 5);
                boolean is = what >= 0 && what < 6;
                return new int[] {what, is ? in(LEAST[what], MOST[what]) : 7, 0, 0};
            case 5: return new int[] {next(20) == 0 ? in(0, 30) : new int[] {2, 3, 4, 6, 20, 21, 22, 23, 24}[next(9)], 0, 0, 0};
            case 6: return pileArguments();
            case 7: return new int[] {pile(), in(0, 12), 0, 0};
            case 8: return new int[] {pile(), next(2) == 0 ? in(0, 39) : in(0, 3), in(0, 1), 0};
            case 9:
            case 11: return new int[] {pile(), fall(), 0, 0};
            case 10: return new int[] {pile(), fall(), next(2) == 0 ? in(0, 20) : in(0, 500), in(1, next(2) == 0 ? 100 : 9)};
            case 12: return new int[] {pile(), next(2) == 0 ? in(0, 500) : in(0, 60), 0, 0};
            case 13: return new int[] {pile(), fall(), next(2) == 0 ? in(0, 50000) : in(0, 8000), 0};
            case 14: return new int[] {pile(), next(3) == 0 ? in(1, 100000) : in(1, 9000), 0, 0};
            case 16: return new int[] {pile(), 0, 0, 0};
            case 17: return new int[] {pile(), in(0, 3), in(0, 3), 0};
            case 18: return new int[] {fall(), in(1, 20), in(0, 4), 0};
            case 19: return new int[] {fall(), in(1, 20), 0, 0};
            case 20: return new int[] {character(), 0, 0, 0};
            case 22: return new int[] {in(0, 1), 0, 0, 0};
            default: return new int[4];
        }
    }

    private int[] stratumArguments() {
        int strata = (int) model.call(5, 0, 0, 0, 0);
        int thickness = next(3) == 0 ? in(100, 20000) : in(100, 1500);
        return new int[] {in(0, next(3) == 0 ? 6 : strata), thickness, next(2) == 0 ? in(1, 500) : in(1, 60), 0};
    }

    private int[] pileArguments() {
        int length = next(2) == 0 ? in(1000, 3000) : in(1000, 50000);
        if (next(4) == 0) {
            return new int[] {next(3), next(3), length, 0};
        }
        return new int[] {in(0, 20000) / (next(2) == 0 ? 1 : 4), in(0, 20000) / (next(2) == 0 ? 1 : 4), length, 0};
    }

    /** Characters of parts that are mostly possible. */
    private int character() {
        if (next(200) == 0) {
            return in(32, 126);
        }
        if (wanted >= toType.length()) {
            toType = part();
            wanted = 0;
        }
        return toType.charAt(wanted++);
    }

    private String part() {
        int fall = next(30) == 0 ? between(0, 99999) : between(100, 3000);
        String form = next(5) == 0 ? String.format("%04d", fall) : String.format("%03d", fall);
        int pile = next(20) == 0 ? next(12) : next(2);
        String times = next(2) == 0 ? "" : "*" + (next(15) == 0 ? next(120) : between(1, 40));
        return pile + (next(60) == 0 ? ";" : ":") + form + times + (next(60) == 0 ? "" : ";");
    }

    private long call(int method, int a, int b, int c, int d) {
        switch (method) {
            case 0: return sets.stratum(a, b, c);
            case 1: return sets.cut();
            case 2: return sets.ground(a, b);
            case 3: return sets.at(a);
            case 4: return sets.set(a, b);
            case 5: return sets.count(a);
            case 6: return sets.pile(a, b, c);
            case 7: return sets.pileOf(a, b);
            case 8: return sets.blow(a, b, c);
            case 9: return sets.strike(a, b);
            case 10: return sets.drive(a, b, c, d);
            case 11: return sets.would(a, b);
            case 12: return sets.fallFor(a, b);
            case 13: return sets.blowsTo(a, b, c);
            case 14: return sets.test(a, b);
            case 15: return sets.undo();
            case 16: return sets.runs(a);
            case 17: return sets.run(a, b, c);
            case 18: return sets.order(a, b, c);
            case 19: return sets.leastLift(a, b);
            case 20: return sets.type(a);
            case 21: return sets.clearText();
            case 22: return sets.fault(a);
            default: return sets.carry();
        }
    }
}
