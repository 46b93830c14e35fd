/** The constants as the document writes them: a test that names them is not led by the program. */
interface Doc {
    int NO_SUCH_NODE = -1;
    int NO_SUCH_SPAN = -2;
    int NO_SUCH_CIRCUIT = -3;
    int BAD_VALUE = -4;
    int SAME_NODE = -5;
    int SLOT_IN_USE = -6;
    int TOO_MANY_CIRCUITS = -7;
    int NOT_SAVED = -8;
    int NONE = -9;

    int NO_REQUEST = 0;
    int WAIT_SPAN = 1;
    int WAIT_RING = 2;
    int MANUAL_SPAN = 3;
    int MANUAL_RING = 4;
    int FAIL_SPAN = 5;
    int FAIL_RING = 6;
    int FORCED_SPAN = 7;
    int FORCED_RING = 8;
    int LOCKOUT = 9;

    int NO_SWITCH = 0;
    int SPAN_SWITCH = 1;
    int RING_SWITCH = 2;

    int UNDISTURBED = 0;
    int SPAN_PROTECTED = 1;
    int RING_PROTECTED = 2;
    int SQUELCHED = 3;
    int LOST = 4;
    int PREEMPTED = 5;

    int LEAST = Integer.MIN_VALUE;
    int GREATEST = Integer.MAX_VALUE;
}
