/** Makes a call by its name and tells what came of it: the answer, "done", or the exception's name. */
final class Calls {
    private Calls() {
    }

    static String outcome(KeyCustody x, String name, int... a) {
        try {
            switch (name) {
                case "group": x.group(a[0], a[1], a[2]); return "done";
                case "found": x.found(a[0], a[1], a[2], a[3]); return "done";
                case "fault": x.fault(a[0], a[1]); return "done";
                case "deal": x.deal(a[0], a[1], a[2], a[3]); return "done";
                case "wipe": x.wipe(a[0]); return "done";
                case "look": return "" + x.look(a[0]);
                case "answer": return "" + x.answer(a[0], a[1]);
                case "close": return "" + x.close();
                case "recover": return "" + x.recover(a[0]);
                case "share": return "" + x.share(a[0]);
                case "fits": return "" + x.fits(a[0]);
                case "sum": return "" + x.sum(a[0]);
                case "element": return "" + x.element(a[0]);
                case "reconstruct": return "" + x.reconstruct(a[0]);
                case "post": return "" + x.post(a[0], a[1]);
                case "about": return "" + x.about(a[0]);
                default: throw new AssertionError(name);
            }
        } catch (RuntimeException e) {
            return e.getClass().getSimpleName();
        }
    }
}
