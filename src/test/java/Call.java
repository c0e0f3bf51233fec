/** A call of the face by its name, so that a test can go through all calls and all their numbers. */
final class Call {
    final String name;
    final int[] a;

    Call(String name, int... a) {
        this.name = name;
        this.a = a;
    }

    /** The same call with another number at a place. */
    Call with(int place, int v) {
        int[] b = a.clone();
        b[place] = v;
        return new Call(name, b);
    }

    int on(SunHouses x) {
        switch (name) {
            case "row": return x.row(a[0], a[1], a[2]);
            case "set": return x.set(a[0], a[1], a[2]);
            case "copy": return x.copy(a[0], a[1], a[2], a[3], a[4]);
            case "drop": return x.drop(a[0]);
            case "feed": return x.feed(a[0]);
            case "hill": return x.hill();
            case "fault": return x.fault();
            case "years": return x.years(a[0]);
            case "plant": return x.plant(a[0], a[1]);
            case "fell": return x.fell(a[0]);
            case "carry": return x.carry(a[0], a[1]);
            case "undo": return x.undo();
            case "tree": return x.tree(a[0], a[1]);
            case "house": return x.house(a[0], a[1]);
            case "place": return x.place(a[0], a[1]);
            default: return onForetold(x);
        }
    }

    private int onForetold(SunHouses x) {
        switch (name) {
            case "light": return x.light(a[0], a[1]);
            case "lives": return x.lives(a[0], a[1], a[2]);
            case "next": return x.next(a[0]);
            case "best": return x.best(a[0], a[1], a[2]);
            case "toFell": return x.toFell(a[0], a[1], a[2], a[3]);
            case "seen": return x.seen(a[0], a[1]);
            case "planted": return x.planted(a[0], a[1], a[2], a[3]);
            case "hidden": return x.hidden(a[0], a[1], a[2], a[3], a[4]);
            case "storms": return x.storms(a[0], a[1], a[2], a[3], a[4]);
            case "image": return x.image(a[0]);
            case "restore": return x.restore(a[0]);
            default: return onAsked(x);
        }
    }

    private int onAsked(SunHouses x) {
        switch (name) {
            case "kind": return x.kind(a[0]);
            case "as": return x.as(a[0], a[1]);
            case "ask": return x.ask(a[0], a[1]);
            case "trace": return x.trace(a[0]);
            case "count": return x.count(a[0]);
            case "status": return x.status();
            default: throw new IllegalArgumentException(name);
        }
    }

    @Override
    public String toString() {
        StringBuilder s = new StringBuilder(name).append('(');
        for (int i = 0; i < a.length; i++) {
            s.append(i == 0 ? "" : ", ").append(a[i]);
        }
        return s.append(')').toString();
    }
}
