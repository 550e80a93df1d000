import java.nio.charset.StandardCharsets;

/** What the tests share: they count wrong answers and end with exit code 1 if there was one. */
final class Check {
    interface Call {
        void run();
    }

    private static int wrong = 0;
    private static int checked = 0;

    private Check() {
    }

    /** One test for one sentence of the document: tells the sentence if an answer in it is wrong. */
    static void edge(String sentence, Call test) {
        int before = wrong;
        int done = checked;
        test.run();
        if (checked == done) {
            wrong++;
            System.out.println("nothing is compared for this sentence");
        }
        if (wrong > before) {
            System.out.println("  broken: " + sentence);
        }
    }

    static void same(String call, String due, String got) {
        checked++;
        if (!due.equals(got)) {
            wrong++;
            System.out.println(call + " answered " + got + ", due is " + due);
        }
    }

    static void same(String call, long due, long got) {
        checked++;
        if (due != got) {
            wrong++;
            System.out.println(call + " answered " + got + ", due is " + due);
        }
    }

    static void same(String call, boolean due, boolean got) {
        same(call, due ? 1 : 0, got ? 1 : 0);
    }

    /** The exception must be of this very class, and thrown by TwinBoot's own code. */
    static void refuses(String call, Class<? extends RuntimeException> due, Call made) {
        checked++;
        String got = "no exception";
        try {
            made.run();
        } catch (RuntimeException e) {
            boolean own = e.getStackTrace().length > 0 && e.getStackTrace()[0].getClassName().startsWith("TwinBoot");
            if (e.getClass() == due && own) {
                return;
            }
            got = e + (own ? "" : " from the machine or the library");
        }
        wrong++;
        System.out.println(call + ": " + got + ", due is " + due.getName());
    }

    static void badArgument(String call, Call made) {
        refuses(call, IllegalArgumentException.class, made);
    }

    static void badIndex(String call, Call made) {
        refuses(call, IndexOutOfBoundsException.class, made);
    }

    /** Appends a text of bytes 1 to 255; answers the length of the buffer, or FULL. */
    static int append(TwinBoot boot, String text) {
        byte[] bytes = text.getBytes(StandardCharsets.ISO_8859_1);
        int answer = boot.append(0);
        for (int i = 0; i < bytes.length; i += 8) {
            long eight = 0;
            for (int k = i; k < bytes.length && k < i + 8; k++) {
                eight = eight << 8 | bytes[k] & 255;
            }
            answer = boot.append(eight);
        }
        return answer;
    }

    static int load(TwinBoot boot, String text) {
        append(boot, text);
        return boot.load();
    }

    static TwinBoot device(String text) {
        TwinBoot boot = new TwinBoot();
        int answer = load(boot, text);
        checked++;
        if (answer < 0) {
            wrong++;
            System.out.println("load of \"" + text + "\" answered " + answer);
        }
        return boot;
    }

    static void stage(TwinBoot boot, int... words) {
        boot.clearStaged();
        for (int word : words) {
            boot.stage(word);
        }
    }

    static void end() {
        System.out.println(wrong + " of " + checked + " answers are wrong");
        if (wrong > 0) {
            System.exit(1);
        }
    }
}
