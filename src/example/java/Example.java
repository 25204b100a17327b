/** How WhistledNames is used: beside each call that is printed stands what it answers. */
public final class Example {
    private Example() {
    }

    public static void main(String[] args) {
        WhistledNames gorge = new WhistledNames();

        // Who hears whom, and by which wind at most; then people: an ear, a tune, a place, a kin.
        System.out.println(gorge.hears(0, 1, 1));       // -1: NONE, until now places 0 and 1 did not hear each other
        System.out.println(gorge.one(0, 27, 0, 1));     // 0: person 0, PLAIN, called by the notes 2 3, at place 0
        System.out.println(gorge.one(1, 23, 0, 1));     // 1: person 1, LISP, called by 1 3, at place 0, of the same kin
        System.out.println(gorge.one(2, 100, 1, 2));    // 2: person 2, HALF, called by 2 1 0, at place 1

        // Calls: each one who turns is a bit of the answer (person 0: 1, person 1: 2, person 2: 4).
        System.out.println(gorge.call(0, 27, 0));       // 3: persons 0 and 1 turn round
        System.out.println(gorge.comes(27, 1));         // 6: in wind 1 just the note 2 is left of 2 3
        System.out.println(gorge.whistle(0, 27, 1));    // 0: the first call that is told
        System.out.println(gorge.turned(0));            // 3: persons 0 and 1 turned at it
        System.out.println(gorge.heardOf(2));           // 0: person 2 turned at none

        // Tunes for all.
        System.out.println(gorge.taken(0, 1));          // 1: a tune of person 0 is taken for person 1's
        System.out.println(gorge.taken(1, 0));          // 0: not the other way
        System.out.println(gorge.clash(0));             // 1: one pair of people
        System.out.println(gorge.clash(1));             // 1: persons 0 and 1 (10 times 0, and 1)
        System.out.println(gorge.alter());              // 1: it is enough that person 0 changes
        System.out.println(gorge.names(WhistledNames.NONE)); // 4: notes in all, if all get the shortest tunes
        System.out.println(gorge.names(1));             // 16: person 1's among these, the notes 0 0
        System.out.println(gorge.bride(0));             // 24: the notes 2 0
        System.out.println(gorge.thief(0, 0, 2));       // 2: two notes of 2 1 0 bring person 2 out alone
        System.out.println(gorge.whistled(0, 0, 2, 0)); // 1: one tune at which just person 1 turns ..
        System.out.println(gorge.whistled(0, 0, 2, 1)); // 23: .. the notes 1 3
        System.out.println(gorge.word(0, 2, 0, 0));     // 3: notes until person 2 has word from person 0
        System.out.println(gorge.dead(16, 20));         // 0: the first of the dead: the notes 0 0, in year 20
        System.out.println(gorge.free(0, 28));          // -1: NONE, no tune of the dead is free yet
        System.out.println(gorge.free(0, 29));          // 16: the notes 0 0

        // An image; then a gorge told by a text, and the image's again.
        System.out.println(gorge.image(0));             // 1: kept
        type(gorge, "one 0 27 0 1; dead 4 99;");
        System.out.println(gorge.read());               // 2: items
        System.out.println(gorge.count(0));             // 1: there is just the person of the text
        System.out.println(gorge.from(0));              // 1: it goes on from the image
        System.out.println(gorge.count(0));             // 3: people

        // What is refused changes nothing but the counts of refusals.
        System.out.println(gorge.rename(7, 4));         // -2: BAD, there is no person 7
        System.out.println(gorge.one(0, 8, 0, 0));      // -2: BAD, 8 is no tune
        System.out.println(gorge.hears(0, 0, 1));       // -10: BAD, as hears tells it: the places are alike
        System.out.println(gorge.undo());               // 0: the call told is taken back, none is left
        System.out.println(gorge.undo());               // -3: NO, there is none
        while (gorge.count(1) < 6) {
            gorge.dead(4, 0);
        }
        System.out.println(gorge.dead(4, 0));           // -4: FULL, there are six of the dead already
        System.out.println(gorge.status(0));            // 3: calls refused as BAD until now
        System.out.println(gorge.status(1));            // 1: as NO
        System.out.println(gorge.status(2));            // 1: as FULL
        type(gorge, "two");
        System.out.println(gorge.read());               // -34: -10 less 24, at byte 24 stands a word that is none
        System.out.println(gorge.status(0));            // 3: as before, a text's fault is counted nowhere
    }

    /** Up to 8 bytes come to the text by one call; here it is one each. */
    private static void type(WhistledNames gorge, String text) {
        for (int i = 0; i < text.length(); i++) {
            gorge.type(text.charAt(i), 1);
        }
    }
}
