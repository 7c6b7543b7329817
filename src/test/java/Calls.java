/** The document's calls by number, in the order of its face. */
final class Calls {
    private Calls() {
    }

    static int call(GongHouse x, int method, int[] a) {
        switch (method) {
            case 0: return x.feed(a[0], a[1], a[2]);
            case 1: return x.trim(a[0]);
            case 2: return x.tune(a[0]);
            case 3: return x.told(a[0], a[1], a[2]);
            case 4: return x.isOf(a[0], a[1], a[2]);
            case 5: return x.strike(a[0], a[1], a[2], a[3], a[4]);
            case 6: return x.lay(a[0], a[1], a[2], a[3]);
            case 7: return x.together(a[0], a[1], a[2], a[3]);
            case 8: return x.wrong(a[0], a[1]);
            case 9: return x.use(a[0], a[1], a[2]);
            case 10: return x.part(a[0], a[1], a[2]);
            case 11: return x.signal(a[0], a[1]);
            case 12: return x.drop();
            case 13: return x.round(a[0], a[1]);
            case 14: return x.plays(a[0], a[1], a[2], a[3]);
            case 15: return x.damps(a[0], a[1], a[2], a[3]);
            case 16: return x.strikes(a[0], a[1]);
            case 17: return x.ticks();
            case 18: return x.leaps(a[0], a[1], a[2]);
            case 19: return x.choice(a[0], a[1]);
            case 20: return x.sheet(a[0], a[1]);
            case 21: return x.mark(a[0], a[1], a[2]);
            case 22: return x.copy(a[0], a[1], a[2], a[3], a[4]);
            default: return x.count(a[0]);
        }
    }
}
