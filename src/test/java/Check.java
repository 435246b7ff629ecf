/** Counts the answers that are not as due; made for tests with a main method. */
final class Check {
    private static int wrong = 0;
    private static int made = 0;
    private static String about = "";

    private Check() {}

    interface Call {
        void run();
    }

    static void same(String what, long got, long due) {
        made++;
        if (got != due) {
            miss(what + ": answered " + got + ", due is " + due);
        }
    }

    static void same(String what, boolean got, boolean due) {
        made++;
        if (got != due) {
            miss(what + ": answered " + got + ", due is " + due);
        }
    }

    static void same(String what, double got, double due) {
        made++;
        if (got != due) {
            miss(what + ": answered " + got + ", due is " + due);
        }
    }

    static void same(String what, String got, String due) {
        made++;
        if (!got.equals(due)) {
            miss(what + ": answered " + got + ", due is " + due);
        }
    }

    /** The class must be the very one, since a caller may tell its sub-classes apart. */
    static void refuses(String what, Class<?> due, Call call) {
        made++;
        try {
            call.run();
        } catch (RuntimeException e) {
            if (e.getClass() != due) {
                miss(what + ": throws " + e.getClass().getName() + ", due is " + due.getName());
            }
            return;
        }
        miss(what + ": throws nothing, due is " + due.getName());
    }

    static void noPlace(String what, Call call) {
        refuses(what, IndexOutOfBoundsException.class, call);
    }

    static void noArgument(String what, Call call) {
        refuses(what, IllegalArgumentException.class, call);
    }

    static void noState(String what, Call call) {
        refuses(what, IllegalStateException.class, call);
    }

    static void finish() {
        System.out.println(wrong == 0 ? "all answers are as due" : wrong + " answers are not as due");
        if (wrong != 0) {
            System.exit(1);
        }
    }

    static int wrongSoFar() {
        return wrong;
    }

    static int madeSoFar() {
        return made;
    }

    /** Tells what the checks from now on are about; each answer that is not as due tells it, too. */
    static void isAbout(String words) {
        about = words;
    }

    static void miss(String text) {
        wrong++;
        if (wrong <= 50) {
            System.out.println(about.isEmpty() ? text : "[" + about + "] " + text);
        }
    }

    /**
     * Code told by words: P is a PLAIN, I7 an IF to 7, G0 a GO to 0, S a STOP. The targets are set
     * when all instructions are there, since insert() would move them.
     */
    static OrielChart chart(String code) {
        OrielChart x = new OrielChart();
        String[] words = code.isEmpty() ? new String[0] : code.split(" ");
        for (int i = 0; i < words.length; i++) {
            x.insert(i, "PIGS".indexOf(words[i].charAt(0)), 0);
        }
        for (int i = 0; i < words.length; i++) {
            if (words[i].length() > 1) {
                x.setTarget(i, Integer.parseInt(words[i].substring(1)));
            }
        }
        return x;
    }

    /** The code as words, with what it sets and uses left out. */
    static String code(OrielChart x) {
        StringBuilder text = new StringBuilder();
        for (int i = 0; i < x.instructions(); i++) {
            int kind = x.kindOf(i);
            text.append(i == 0 ? "" : " ").append("PIGS".charAt(kind));
            if (kind == 1 || kind == 2) {
                text.append(x.targetOf(i));
            }
        }
        return text.toString();
    }

    /** The edges as from>to, the EXIT as x. */
    static String edges(OrielChart x) {
        StringBuilder text = new StringBuilder();
        for (int e = 0; e < x.edges(); e++) {
            int to = x.edgeTo(e);
            text.append(e == 0 ? "" : " ").append(x.edgeFrom(e)).append('>');
            text.append(to < 0 ? "x" : String.valueOf(to));
        }
        return text.toString();
    }

    /** The steps as rule and node: O ROUND, R ROW, S SINGLE, D DOUBLE. */
    static String steps(OrielChart x) {
        StringBuilder text = new StringBuilder();
        for (int s = 0; s < x.steps(); s++) {
            text.append(s == 0 ? "" : " ").append("ORSD".charAt(x.ruleOf(s))).append(x.nodeOf(s));
        }
        return text.toString();
    }

    /** The layers, each with its points in order: a block as its number, a bend as e and its edge. */
    static String layers(OrielChart x) {
        StringBuilder text = new StringBuilder();
        for (int l = 0; l < x.layers(); l++) {
            text.append(l == 0 ? "" : " | ");
            for (int i = 0; i < x.points(l); i++) {
                int point = x.pointAt(l, i);
                text.append(i == 0 ? "" : " ");
                text.append(point >= 0 ? String.valueOf(point) : "e" + (-1 - point));
            }
        }
        return text.toString();
    }

    /** All that one can ask for without changing anything, so that two drawings can be compared. */
    static String all(OrielChart x) {
        StringBuilder text = new StringBuilder(code(x)).append("; ").append(edges(x));
        text.append("; ").append(row(x.blocks(), x::firstOf));
        for (int one = 0; one < x.blocks(); one++) {
            int d = one;
            text.append("; ").append(row(x.blocks(), b -> x.dominates(d, b) ? 1 : 0));
            text.append(", ").append(row(x.blocks(), b -> x.comesBehind(d, b) ? 1 : 0));
        }
        text.append("; ").append(row(x.blocks(), x::liveIn)).append("; ").append(x.vain());
        text.append("; ").append(steps(x)).append("; ").append(row(x.blocks(), x::endsIn));
        text.append("; ").append(layers(x));
        for (int edge = 0; edge < x.edges(); edge++) {
            int e = edge;
            text.append("; ").append(row(Math.max(0, x.bends(e)), k -> x.bendAt(e, k)));
        }
        text.append("; ").append(x.crossings()).append("; ").append(x.wouldCross(1));
        text.append("; ").append(x.swept()).append("; ").append(x.meanLength());
        return text.append("; ").append(x.digest()).toString();
    }

    interface Ask {
        long of(int number);
    }

    /** 0 to many - 1 are answered; one ahead, one behind, and the ends of all numbers are refused. */
    static void bounds(String what, int many, Ask ask) {
        for (int k = 0; k < many; k++) {
            answers(what + " of " + k, ask, k);
        }
        for (int k : new int[] {-1, many, Integer.MIN_VALUE, Integer.MAX_VALUE}) {
            noPlace(what + " of " + k, () -> ask.of(k));
        }
    }

    private static void answers(String what, Ask ask, int number) {
        made++;
        try {
            ask.of(number);
        } catch (RuntimeException e) {
            miss(what + ": throws " + e.getClass().getName() + ", due is an answer");
        }
    }

    /** The answers of a call for 0, 1, 2 and so on, with spaces between. */
    static String row(int many, Ask ask) {
        StringBuilder text = new StringBuilder();
        for (int i = 0; i < many; i++) {
            text.append(i == 0 ? "" : " ").append(ask.of(i));
        }
        return text.toString();
    }
}
