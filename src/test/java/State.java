/** All that can be asked of an object, as one text; asking changes nothing. */
final class State {
    private final SortWorks works;
    private final StringBuilder text = new StringBuilder();

    private State(SortWorks works) {
        this.works = works;
    }

    static String of(SortWorks works) {
        State state = new State(works);
        state.plan();
        state.kinds();
        state.balesAndCoins();
        return state.text.toString();
    }

    private void put(String call, long answer) {
        text.append(call).append('=').append(answer).append(' ');
    }

    private void plan() {
        for (int what : new int[] {0, 1, 2, 3, 10, 11, 12, 13}) {
            put("about " + what, works.about(what));
        }
        put("fault", works.fault(0));
        put("place", works.fault(1));
        for (int unit = 0; unit < works.about(0); unit++) {
            for (int what = 0; what < 4; what++) {
                put("unit " + unit + " " + what, works.unit(unit, what));
            }
            for (int setting = 0; setting < works.unit(unit, 0); setting++) {
                for (int kind = 0; kind < 5; kind++) {
                    put("setting " + unit + " " + setting + " " + kind, works.setting(unit, setting, kind));
                }
            }
        }
    }

    private void kinds() {
        for (int kind = 0; kind < 5; kind++) {
            put("whole " + kind, works.whole(kind));
            put("comes " + kind, works.comes(kind));
            for (int other = 0; other < 5; other++) {
                put("part " + kind + " " + other, works.part(kind, other));
                put("grams " + other + " " + kind, works.grams(other, kind));
                put("brought " + other + " " + kind, works.brought(other, kind));
            }
        }
    }

    private void balesAndCoins() {
        for (int bale = 0; bale < 4; bale++) {
            put("purity " + bale, works.purity(bale));
            put("earns " + bale, works.earns(bale));
        }
        put("worth", works.worth());
        for (int town = 0; town < 5; town++) {
            put("share " + town, works.share(town, 0, 101));
        }
    }
}
