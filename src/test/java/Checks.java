/** Counts what is not as due, and ends the test with exit code 1 if anything was. */
final class Checks {
    interface Call {
        Object run();
    }

    private String under = "";
    private int right;
    private int wrong;

    /** What all that comes is told to be a part of. */
    void under(String name) {
        under = name + ": ";
    }

    /** What a call answers, or throws.Name for the exception that it throws. */
    static String answer(Call call) {
        try {
            return String.valueOf(call.run());
        } catch (RuntimeException e) {
            StackTraceElement[] trace = e.getStackTrace();
            String name = "throws." + e.getClass().getSimpleName();
            // The machine's own exceptions come out of the library, or bear other names than the document's.
            return trace.length > 0 && trace[0].getClassName().startsWith("java") ? name + " by the library" : name;
        }
    }

    void due(String what, Object want, Call call) {
        String got = answer(call);
        if (got.equals(String.valueOf(want))) {
            right++;
        } else {
            wrong++;
            System.out.println(under + what + " answered " + got + ", due is " + want);
        }
    }

    /** A call that throws, and behind which all is as it was. */
    void refused(String what, Class<? extends RuntimeException> want, ScrimshawKernel kernel, Call call) {
        String was = look(kernel);
        due(what, "throws." + want.getSimpleName(), call);
        due(what + ", and what is changed behind it", was, () -> look(kernel));
    }

    /** The digest tells each region whole, by its strips, and the number of changes to undo. */
    private static String look(ScrimshawKernel kernel) {
        return kernel.digest() + " pen " + kernel.lineX(0) + " " + kernel.lineY(0) + " points " + kernel.points();
    }

    /** A window of a region, its upper row first: # for a field of it. */
    static String drawn(ScrimshawKernel kernel, int region, int x, int y, int width, int height) {
        StringBuilder drawn = new StringBuilder();
        for (int j = height - 1; j >= 0; j--) {
            for (int i = 0; i < width; i++) {
                drawn.append(kernel.has(region, x + i, y + j) ? '#' : '.');
            }
            drawn.append(j > 0 ? "/" : "");
        }
        return drawn.toString();
    }

    /** Puts a drawing, as told above, into an empty region; its left lower field is at (x, y). */
    static void draw(ScrimshawKernel kernel, int region, int x, int y, String drawing) {
        String[] rows = drawing.split("/");
        for (int j = 0; j < rows.length; j++) {
            String row = rows[rows.length - 1 - j];
            for (int i = 0; i < row.length(); i++) {
                if (row.charAt(i) == '#') {
                    kernel.addRectangle(region, x + i, y + j, 1, 1);
                }
            }
        }
    }

    void end(String test) {
        System.out.println(test + ": " + right + " as due, " + wrong + " not");
        if (wrong != 0 || right == 0) {
            System.exit(1);
        }
    }
}
