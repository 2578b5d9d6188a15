/** The program, called by number. */
final class Real implements Calls {
    private final WheelWorks works;

    Real(WheelWorks works) {
        this.works = works;
    }

    @Override
    public long call(int call, int a, int b, int c, int d) {
        try {
            return call <= RELEASE ? work(call, a, b, c, d) : tell(call, a, b, c);
        } catch (RuntimeException e) {
            if (!Check.isOwn(e)) {
                return OTHER;
            }
            if (e.getClass() == IndexOutOfBoundsException.class) {
                return INDEX;
            }
            if (e.getClass() == IllegalArgumentException.class) {
                return ARGUMENT;
            }
            return e.getClass() == IllegalStateException.class ? STATE : OTHER;
        }
    }

    private long work(int call, int a, int b, int c, int d) {
        switch (call) {
            case PART: return works.part(a, b, c);
            case LIMITS: return works.limits(a, b, c, d);
            case FIT: return works.fit(a, b);
            case TAKE: return works.take(a);
            case SCRAP: works.scrap(a); return 0;
            case RUN: return works.run(a, b, c);
            case TURN: return works.turn(a);
            case GATE: return works.gate(a, b);
            case EXAMINE: return works.examine(a);
            case WAIVE: works.waive(a, b); return 0;
            case FLAW: return works.flaw(a, b);
            case LOOK: return works.look(a, b != 0);
            case CLEAR: return works.clear(a);
            case RECALL: return works.recall(a);
            default: return works.release(a);
        }
    }

    private long tell(int call, int a, int b, int c) {
        switch (call) {
            case COMES: return works.comes(a, b);
            case NIGHT: return works.night();
            case OUT: return works.out();
            case HOST: return works.host(a);
            case HEAD: return works.head(a);
            case OF_PART: return works.ofPart(a, b);
            case TRACE: return works.trace(a, b);
            case LIFE_ANEW: return works.lifeAnew(a);
            case WHEEL: return works.wheel(a, b);
            case FORETELL: return works.foretell(a, b, c);
            case BARS: return works.bars(a);
            case BARRED_BY: return works.barredBy(a);
            case IS_RELEASED: return works.isReleased(a) ? 1 : 0;
            case PLAN: return works.plan();
            case PLAN_ANEW: return works.planAnew();
            default: return works.road(a, b);
        }
    }
}
