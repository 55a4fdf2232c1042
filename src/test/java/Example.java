public final class Example {
    public static void main(String[] args) {
        BallTown town = new BallTown();
        write(town, "wheat 0;well 1;wall 0 2;stand 3 2");
        say(town.fault());                   // -1 (NONE): the text has no fault
        say(town.town());                    // 4: so many lines are done
        say(town.field(0, 2));               // 3: the tax of the wheat, for it has a well open to it
        say(town.step(1));                   // 8: the walker goes from field 3, come in by side 2, out by side 3
        say(town.keep(0));                   // 1: so many steps has he made, and all that is kept
        say(town.rotate(0, 1));              // 2: the well goes from field 1 to 2, the wheat stays where it is
        say(town.field(0, 2));               // 2: between them is a wall now
        say(town.back(0));                   // 1: kinds, walker and steps are as they were kept
        say(town.field(0, 2));               // 3: as before
        say(town.rounds(BallTown.NONE));     // 768: rounds through all fields, with one wall
        say(town.odds(0, 1, 1, 1));          // 4: one of four ways out of field 0 leads to field 1
        say(town.beside(12, 0));             // -2 (UNKNOWN): there is no field 12
        say(town.step(5));                   // -3 (OUTSIDE): turns are 0 .. 4
        say(town.back(1));                   // -4 (NOT): nothing was kept there
    }

    /** Eight bytes at most come with each call, the first one lowest. */
    private static void write(BallTown town, String text) {
        for (int at = 0; at < text.length(); at += 8) {
            int n = Math.min(8, text.length() - at);
            long bytes = 0;
            for (int i = 0; i < n; i++) {
                bytes |= (long) text.charAt(at + i) << 8 * i;
            }
            town.write(bytes, n);
        }
    }

    private static void say(long answer) {
        System.out.println(answer);
    }
}
