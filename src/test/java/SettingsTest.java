/** Gap, radius and rails, sentence by sentence: promises 7, 13 and 15. */
public final class SettingsTest {
    private interface Setting {
        boolean set(PanelForms p, long v);
    }

    public static void main(String[] args) {
        Sentences.askAll(SettingsTest.class);
    }

    /** At first 0; each length once is another one, the same again is none. */
    private static void tellsAnotherOne(String what, Setting setting) {
        PanelForms p = new PanelForms(10, 10);
        Check.no(what + " 0 at first", setting.set(p, 0));
        for (long v : new long[] {1, 5, 65535, 65536, 0}) {
            Check.yes(what + " " + v, setting.set(p, v));
            Check.no(what + " " + v + " again", setting.set(p, v));
        }
    }

    private static void refuses(String what, Setting setting) {
        PanelForms p = new PanelForms(10, 10);
        for (long was : new long[] {0, 3, 65536}) {
            setting.set(p, was);
            for (long no : Panels.NO_LENGTHS) {
                Check.argument(what + " " + no, () -> Check.one(setting.set(p, no)));
                Check.no(what + " is as it was", setting.set(p, was));
            }
        }
    }

    @Says(in = "Promise 7", sentence = "The GAP: whether it was another one")
    static void gapTellsAnotherOne() {
        tellsAnotherOne("gap", PanelForms::gap);
    }

    @Says(in = "Promise 7", sentence = "IllegalArgumentException, when it is none")
    static void gapThatIsNone() {
        refuses("gap", PanelForms::gap);
        Panels.leavesAll("no gap", q -> Check.one(q.gap(-1)));
    }

    @Says(in = "Promise 13", sentence = "The tool's radius (0 .. 65,536, at first 0): whether it was another one")
    static void radiusTellsAnotherOne() {
        tellsAnotherOne("radius", PanelForms::radius);
    }

    @Says(in = "Promise 13", sentence = "IllegalArgumentException, when it is none")
    static void radiusThatIsNone() {
        refuses("radius", PanelForms::radius);
        Panels.leavesAll("no radius", q -> Check.one(q.radius(65537)));
    }

    @Says(in = "Promise 15", sentence = "A RAIL: whether it was another one")
    static void railTellsAnotherOne() {
        for (int s = 0; s < 4; s++) {
            int side = s;
            tellsAnotherOne("rail " + side, (p, v) -> p.rail(side, v));
        }
        PanelForms p = new PanelForms(10, 10);
        for (int side = 0; side < 4; side++) {
            Check.yes("each side has its own", p.rail(side, 6));
        }
    }

    @Says(in = "Promise 15", sentence = "IndexOutOfBoundsException, when there is no such side")
    static void railOfNoSide() {
        PanelForms p = new PanelForms(10, 10);
        Check.index("side -1", () -> Check.one(p.rail(-1, 1)));
        Check.index("side 4", () -> Check.one(p.rail(4, 1)));
        for (int far : Panels.FAR_OUT) {
            Check.index("side " + far, () -> Check.one(p.rail(far, 1)));
        }
        Check.index("no side ahead of no rail", () -> Check.one(p.rail(4, -1)));
        for (int side = 0; side < 4; side++) {
            Check.no("rail " + side + " is as it was", p.rail(side, 0));
        }
    }

    @Says(in = "Promise 15", sentence = "IllegalArgumentException, when it is none")
    static void railThatIsNone() {
        for (int s = 0; s < 4; s++) {
            int side = s;
            refuses("rail " + side, (p, v) -> p.rail(side, v));
        }
    }
}
