import java.util.List;

/** A call of the program by its name; shared by all tests that draw or read their calls. */
final class Calls {
    /** The names of the face, each with how many arguments it takes. */
    static final List<String> FACE = List.of(("field1 of2 rough2 glue4 cut2 over2 walker3 its2 place3 turn2 as2 step1 steps1"
        + " on3 when2 back1 meet2 spares1 closes2 bumps2 square3 dine4 sees2 twice1 about2 corners0 excess0 bent0 parts0 far2"
        + " smooth2 turns3 within2 mends2 feed2 wipe0 plain0 sheet3 write3 copy5 lays1 book2 read2 image0 undo0 tear0"
        + " count1 status1").split(" "));

    private Calls() {
    }

    static long on(BentPlain x, String name, long... l) {
        if (!FACE.contains(name + l.length)) {
            throw new AssertionError("no call " + name + " of " + l.length);
        }
        int[] a = new int[6];
        for (int i = 0; i < l.length; i++) {
            a[i] = (int) l[i];
        }
        switch (name) {
            case "field": return x.field(a[0]);
            case "of": return x.of(a[0], a[1]);
            case "rough": return x.rough(a[0], a[1]);
            case "glue": return x.glue(a[0], a[1], a[2], a[3]);
            case "cut": return x.cut(a[0], a[1]);
            case "over": return x.over(a[0], a[1]);
            case "walker": return x.walker(a[0], a[1], a[2]);
            case "its": return x.its(a[0], a[1]);
            case "place": return x.place(a[0], a[1], a[2]);
            case "turn": return x.turn(a[0], a[1]);
            case "as": return x.as(a[0], a[1]);
            case "step": return x.step(a[0]);
            case "steps": return x.steps(a[0]);
            case "on": return x.on(a[0], a[1], a[2]);
            case "when": return x.when(a[0], a[1]);
            case "back": return x.back(a[0]);
            case "meet": return x.meet(a[0], a[1]);
            case "spares": return x.spares(a[0]);
            case "closes": return x.closes(a[0], a[1]);
            case "bumps": return x.bumps(a[0], a[1]);
            case "square": return x.square(a[0], a[1], a[2]);
            case "dine": return x.dine(a[0], a[1], a[2], a[3]);
            case "sees": return x.sees(a[0], a[1]);
            case "twice": return x.twice(a[0]);
            case "about": return x.about(a[0], a[1]);
            case "corners": return x.corners();
            case "excess": return x.excess();
            case "bent": return x.bent();
            case "parts": return x.parts();
            case "far": return x.far(a[0], a[1]);
            case "smooth": return x.smooth(a[0], a[1]);
            case "turns": return x.turns(a[0], a[1], a[2]);
            case "within": return x.within(a[0], a[1]);
            case "mends": return x.mends(a[0], a[1]);
            case "feed": return x.feed(a[0], a[1]);
            case "wipe": return x.wipe();
            case "plain": return x.plain();
            case "sheet": return x.sheet(a[0], a[1], a[2]);
            case "write": return x.write(a[0], a[1], l[2]);
            case "copy": return x.copy(a[0], a[1], a[2], a[3], a[4]);
            case "lays": return x.lays(a[0]);
            case "book": return x.book(a[0], a[1]);
            case "read": return x.read(a[0], a[1]);
            case "image": return x.image();
            case "undo": return x.undo();
            case "tear": return x.tear();
            case "count": return x.count(a[0]);
            case "status": return x.status(a[0]);
            default: throw new AssertionError(name);
        }
    }
}
