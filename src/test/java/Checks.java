/** What the tests of the promises share: counting checks, and writing bodies in few words. */
final class Checks {
    interface Call { Object get(); }

    /** So many outputs are looked at: no town is called more than 512 times. */
    static final int MOST_TOLD = 400;

    private static int passed = 0;
    private static int failed = 0;

    private Checks() {
    }

    static void same(String what, Object got, Object want) {
        if (want.equals(got)) {
            passed++;
        } else {
            failed++;
            System.out.println(what + ": answered " + got + ", due is " + want);
        }
    }

    static void fails(String what, Class<? extends RuntimeException> due, Call call) {
        Object got;
        try {
            got = call.get();
        } catch (RuntimeException e) {
            got = e.getClass();
        }
        same(what, got, due);
    }

    static void index(String what, Call call) {
        fails(what, IndexOutOfBoundsException.class, call);
    }

    static void argument(String what, Call call) {
        fails(what, IllegalArgumentException.class, call);
    }

    static void unsupported(String what, Call call) {
        fails(what, UnsupportedOperationException.class, call);
    }

    static void state(String what, Call call) {
        fails(what, IllegalStateException.class, call);
    }

    static void missing(String what, Call call) {
        fails(what, java.util.NoSuchElementException.class, call);
    }

    static void arithmetic(String what, Call call) {
        fails(what, ArithmeticException.class, call);
    }

    /** Adds steps such as "C 2 3 10 4", an op and up to four numbers, to a body. */
    static void write(Reifytown town, int body, String... steps) {
        for (String step : steps) {
            String[] words = step.split(" ");
            int[] n = new int[4];
            for (int i = 1; i < words.length; i++) {
                n[i - 1] = Integer.parseInt(words[i]);
            }
            town.addStep(body, words[0].charAt(0), n[0], n[1], n[2], n[3]);
        }
    }

    static int body(Reifytown town, String... steps) {
        int body = town.addBody();
        write(town, body, steps);
        return body;
    }

    /** How a run ended, what it returned or did not handle, and what it put out. */
    static String tells(Reifytown town) {
        StringBuilder text = new StringBuilder();
        try {
            char letter = town.returned();
            text.append('r').append(letter);
            if (letter == 'n') {
                text.append(town.number());
            }
        } catch (java.util.NoSuchElementException e) {
            try {
                int number = town.unhandled();
                text.append('u').append(number);
            } catch (java.util.NoSuchElementException f) {
                text.append('l');
            }
        }
        int outputs = town.outputs();
        for (int i = 0; i < Math.min(MOST_TOLD, outputs); i++) {
            text.append(' ').append(town.output(i));
        }
        return text.append(outputs > MOST_TOLD ? " of " + outputs : "").toString();
    }

    static void runs(String what, Reifytown town, int body, int argument, String due) {
        char end = town.run(body, argument);
        same(what, tells(town), due);
        same(what + ", the end", end, due.charAt(0));
    }

    static void close(String name) {
        System.out.println(name + ": " + passed + " passed, " + failed + " failed");
        if (failed != 0) {
            System.exit(1);
        }
    }
}
