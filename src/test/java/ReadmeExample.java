/** The example of README.md, as it stands there; ReadmeTest runs it and compares both. */
final class ReadmeExample {
    static void run() {
        TuneFinder finder = new TuneFinder();

        // tune 0, note by note: a pitch 0 .. 127 and a length 1 .. 64
        int[] pitches = {60, 62, 64, 60, 60, 62, 64, 60, 64, 65, 67};
        int[] lengths = {4, 4, 4, 4, 4, 4, 4, 4, 4, 4, 8};
        finder.tune(0);
        for (int i = 0; i < pitches.length; i++) {
            finder.note(0, pitches[i], lengths[i]);
        }
        finder.show(0, true); // only tunes that are shown are searched

        // what is hummed: in another key, and twice as slow
        finder.ask(67, 8);
        finder.ask(69, 8);
        finder.ask(71, 8);
        int found = finder.search(0, 0); // kind 0 EXACT
        System.out.println(found + " found");
        for (int i = 0; i < Math.min(found, 30); i++) { // the first 30 are kept
            System.out.println("tune " + finder.match(i, 0) + " place " + finder.match(i, 1)
                    + " span " + finder.match(i, 2) + " higher " + finder.match(i, 3)
                    + " score " + finder.match(i, 4) + "/" + finder.match(i, 5));
        }

        // a correction makes a new reading; the old one is kept
        int reading = finder.correct(0, 1, 63, 4);
        System.out.println("reading " + reading + ": " + finder.at(0, 1, 0, TuneFinder.NONE)
                + ", before: " + finder.at(0, 1, 0, 0));
        System.out.println(finder.search(1, 0) + " found now"); // kind 1 MELODY
        finder.restore(0, 0);

        // what comes again, and whether the tune can be sung against itself
        System.out.println("first repeat of 3 steps or more: place " + finder.repeat(0, 3, 0, 0)
                + ", " + finder.repeat(0, 3, 0, 1) + " steps, at " + finder.repeat(0, 3, 0, 2) + " places");
        System.out.println("its first 4 notes again from place " + finder.canon(0, 0, 4));

        try {
            finder.note(0, 60, 4);
        } catch (IllegalStateException e) {
            System.out.println("no note comes to a tune that is shown");
        }
    }

    private ReadmeExample() {
    }
}
