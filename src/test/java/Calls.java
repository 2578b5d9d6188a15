/** All calls of the face by number, so that two works can be asked the same. What throws has an answer too. */
interface Calls {
    int PART = 0, LIMITS = 1, FIT = 2, TAKE = 3, SCRAP = 4, RUN = 5, TURN = 6, GATE = 7, EXAMINE = 8, WAIVE = 9,
        FLAW = 10, LOOK = 11, CLEAR = 12, RECALL = 13, RELEASE = 14, COMES = 15, NIGHT = 16, OUT = 17, HOST = 18,
        HEAD = 19, OF_PART = 20, TRACE = 21, LIFE_ANEW = 22, WHEEL = 23, FORETELL = 24, BARS = 25, BARRED_BY = 26,
        IS_RELEASED = 27, PLAN = 28, PLAN_ANEW = 29, ROAD = 30;
    int MANY = 31;
    String[] NAMES = {"part", "limits", "fit", "take", "scrap", "run", "turn", "gate", "examine", "waive", "flaw",
        "look", "clear", "recall", "release", "comes", "night", "out", "host", "head", "ofPart", "trace", "lifeAnew",
        "wheel", "foretell", "bars", "barredBy", "isReleased", "plan", "planAnew", "road"};

    long INDEX = Long.MIN_VALUE;
    long ARGUMENT = Long.MIN_VALUE + 1;
    long STATE = Long.MIN_VALUE + 2;
    /** What the face never throws. */
    long OTHER = Long.MIN_VALUE + 3;

    long call(int call, int a, int b, int c, int d);
}
