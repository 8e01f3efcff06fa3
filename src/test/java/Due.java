/** Compares answers with what is due, and ends a test with 1 if one was not. */
final class Due {
    private static int wrong = 0;
    private static int asked = 0;

    private Due() {
    }

    static void is(String call, long got, long want) {
        asked++;
        if (got != want) {
            wrong++;
            if (wrong <= 40) {
                System.out.println(call + " answered " + got + ", due is " + want);
            }
        }
    }

    static void holds(String what, boolean so) {
        is(what, so ? 1 : 0, 1);
    }

    static int wrong() {
        return wrong;
    }

    static void end() {
        System.out.println(asked + " answers, " + wrong + " not as due");
        if (wrong != 0) {
            System.exit(1);
        }
    }

    static NewRays written(String text) {
        NewRays x = new NewRays();
        write(x, text);
        return x;
    }

    static void write(NewRays x, String text) {
        x.wipe();
        for (int i = 0; i < text.length(); i++) {
            x.write(text.charAt(i));
        }
    }

    static NewRays room(String text) {
        NewRays x = written(text);
        if (x.room() < 0) {
            wrong++;
            System.out.println(text + " is no room");
        }
        return x;
    }
}
