def zk_T : List Cond := [
  Cond.initialized R_L,
  Cond.initialized R_X,
  Cond.initialized R_P,
  Cond.initialized R_J,
  Cond.initialized R_O,
  Cond.initialized R_R,
  Cond.initialized R_T,
  Cond.initialized R_D,
  Cond.initialized R_M,
  Cond.initialized R_Y,
  Cond.initialized "java/util/Arrays",
  Cond.initialized "java/lang/System",
  Cond.classLink R_L 7 R_X,
  Cond.instantiable R_X 8,
  Cond.methodLink R_L 15 y_X_init,
  Cond.instanceMethod y_X_init,
  Cond.code y_X_init b_X_init 2 none,
  Cond.methodLink R_X 1 objectInit,
  Cond.instanceMethod objectInit,
  Cond.code objectInit ⟨#[0xb1]⟩ 1 none,
  Cond.classLink R_X 13 R_P,
  Cond.instantiable R_P 4,
  Cond.instanceMethod y_P_init,
  Cond.code y_P_init b_P_init 1 none,
  Cond.methodLink R_P 3 objectInit,
  Cond.fieldLink R_P 9 R_P "operations" "[I",
  Cond.fieldLink R_M 61 R_P "operations" "[I",
  Cond.fieldLink R_P 15 R_P "firsts" "[I",
  Cond.fieldLink R_M 64 R_P "firsts" "[I",
  Cond.fieldLink R_P 18 R_P "seconds" "[I",
  Cond.fieldLink R_M 67 R_P "seconds" "[I",
  Cond.fieldLink R_P 21 R_P "size" "I",
  Cond.fieldLink R_X 72 R_P "size" "I",
  Cond.laysFinal R_P R_P "operations" "[I",
  Cond.laysFinal R_P R_P "firsts" "[I",
  Cond.laysFinal R_P R_P "seconds" "[I",
  Cond.lays R_P R_P "size" "I",
  Cond.arrayClass Jvm.ClassFile.FieldType.int,
  Cond.classLink R_X 20 R_J,
  Cond.instantiable R_J 5,
  Cond.instanceMethod y_J_init,
  Cond.code y_J_init b_J_init 1 none,
  Cond.methodLink R_J 3 objectInit,
  Cond.fieldLink R_J 9 R_J "bytes" "[I",
  Cond.fieldLink R_D 49 R_J "bytes" "[I",
  Cond.fieldLink R_X 101 R_J "bytes" "[I",
  Cond.fieldLink R_J 19 R_J "size" "I",
  Cond.fieldLink R_X 92 R_J "size" "I",
  Cond.fieldLink R_J 22 R_J "made" "I",
  Cond.fieldLink R_X 105 R_J "made" "I",
  Cond.fieldLink R_J 15 R_J "sealMade" "I",
  Cond.fieldLink R_X 108 R_J "sealMade" "I",
  Cond.fieldLink R_J 25 R_J "stepBefore" "I",
  Cond.laysFinal R_J R_J "bytes" "[I",
  Cond.lays R_J R_J "size" "I",
  Cond.lays R_J R_J "made" "I",
  Cond.lays R_J R_J "sealMade" "I",
  Cond.lays R_J R_J "stepBefore" "I",
  Cond.classLink R_X 27 R_R,
  Cond.instantiable R_R 6,
  Cond.methodLink R_X 29 y_R_init,
  Cond.instanceMethod y_R_init,
  Cond.code y_R_init b_R_init 2 none,
  Cond.instanceMethod y_O_init,
  Cond.code y_O_init b_O_init 1 none,
  Cond.methodLink R_O 1 objectInit,
  Cond.fieldLink R_R 15 R_R "journal" "LRetoldRun$Journal;",
  Cond.fieldLink R_R 9 R_R "inputs" "[I",
  Cond.fieldLink R_R 19 R_R "waiting" "I",
  Cond.fieldLink R_R 23 R_R "timeBefore" "I",
  Cond.fieldLink R_R 26 R_R "requested" "Z",
  Cond.fieldLink R_X 85 R_R "requested" "Z",
  Cond.fieldLink R_R 30 R_R "clock" "I",
  Cond.fieldLink R_X 89 R_R "clock" "I",
  Cond.laysFinal R_R R_R "journal" "LRetoldRun$Journal;",
  Cond.laysFinal R_R R_R "inputs" "[I",
  Cond.lays R_R R_R "waiting" "I",
  Cond.lays R_R R_R "timeBefore" "I",
  Cond.lays R_R R_R "requested" "Z",
  Cond.lays R_R R_R "clock" "I",
  Cond.classLink R_X 36 R_T,
  Cond.instantiable R_T 2,
  Cond.classLink R_X 38 R_D,
  Cond.instantiable R_D 7,
  Cond.methodLink R_X 40 y_D_init,
  Cond.instanceMethod y_D_init,
  Cond.code y_D_init b_D_init 2 none,
  Cond.methodLink R_D 3 objectInit,
  Cond.fieldLink R_D 9 R_D "journal" "LRetoldRun$Journal;",
  Cond.fieldLink R_D 15 R_D "position" "I",
  Cond.fieldLink R_T 20 R_D "present" "Z",
  Cond.fieldLink R_D 30 R_D "present" "Z",
  Cond.fieldLink R_D 23 R_D "broken" "Z",
  Cond.fieldLink R_T 27 R_D "broken" "Z",
  Cond.fieldLink R_D 19 R_D "step" "J",
  Cond.fieldLink R_T 41 R_D "step" "J",
  Cond.fieldLink R_D 43 R_D "kind" "I",
  Cond.fieldLink R_T 45 R_D "kind" "I",
  Cond.fieldLink R_D 46 R_D "value" "I",
  Cond.fieldLink R_T 38 R_D "value" "I",
  Cond.laysFinal R_D R_D "journal" "LRetoldRun$Journal;",
  Cond.lays R_D R_D "position" "I",
  Cond.lays R_D R_D "present" "Z",
  Cond.lays R_D R_D "broken" "Z",
  Cond.lays R_D R_D "step" "J",
  Cond.lays R_D R_D "kind" "I",
  Cond.lays R_D R_D "value" "I",
  Cond.methodLink R_X 41 y_T_init,
  Cond.instanceMethod y_T_init,
  Cond.code y_T_init b_T_init 2 none,
  Cond.fieldLink R_T 9 R_T "reader" "LRetoldRun$JournalReader;",
  Cond.fieldLink R_T 30 R_T "timeBefore" "I",
  Cond.laysFinal R_T R_T "reader" "LRetoldRun$JournalReader;",
  Cond.lays R_T R_T "timeBefore" "I",
  Cond.classLink R_X 48 R_M,
  Cond.instantiable R_M 10,
  Cond.methodLink R_X 50 y_M_init,
  Cond.instanceMethod y_M_init,
  Cond.code y_M_init b_M_init 2 none,
  Cond.methodLink R_M 3 objectInit,
  Cond.fieldLink R_M 9 R_M "registers" "[I",
  Cond.fieldLink R_M 15 R_M "cells" "[I",
  Cond.fieldLink R_M 28 R_M "place" "I",
  Cond.fieldLink R_M 31 R_M "back" "I",
  Cond.fieldLink R_M 34 R_M "inside" "Z",
  Cond.fieldLink R_M 38 R_M "ended" "Z",
  Cond.fieldLink R_M 18 R_M "lot" "I",
  Cond.fieldLink R_M 41 R_M "output" "I",
  Cond.fieldLink R_M 44 R_M "trace" "I",
  Cond.fieldLink R_M 47 R_M "steps" "I",
  Cond.fieldLink R_X 120 R_M "steps" "I",
  Cond.laysFinal R_M R_M "registers" "[I",
  Cond.laysFinal R_M R_M "cells" "[I",
  Cond.lays R_M R_M "place" "I",
  Cond.lays R_M R_M "back" "I",
  Cond.lays R_M R_M "inside" "Z",
  Cond.lays R_M R_M "ended" "Z",
  Cond.lays R_M R_M "lot" "I",
  Cond.lays R_M R_M "output" "I",
  Cond.lays R_M R_M "trace" "I",
  Cond.lays R_M R_M "steps" "I",
  Cond.fieldLink R_X 7 R_X "seed" "I",
  Cond.fieldLink R_X 16 R_X "program" "LRetoldRun$Program;",
  Cond.fieldLink R_X 23 R_X "journal" "LRetoldRun$Journal;",
  Cond.fieldLink R_X 32 R_X "recording" "LRetoldRun$Recording;",
  Cond.fieldLink R_X 44 R_X "retelling" "LRetoldRun$Retelling;",
  Cond.fieldLink R_X 53 R_X "live" "LRetoldRun$Machine;",
  Cond.fieldLink R_X 57 R_X "told" "LRetoldRun$Machine;",
  Cond.fieldLink R_X 60 R_X "begun" "Z",
  Cond.laysFinal R_X R_X "seed" "I",
  Cond.laysFinal R_X R_X "program" "LRetoldRun$Program;",
  Cond.laysFinal R_X R_X "journal" "LRetoldRun$Journal;",
  Cond.laysFinal R_X R_X "recording" "LRetoldRun$Recording;",
  Cond.laysFinal R_X R_X "retelling" "LRetoldRun$Retelling;",
  Cond.laysFinal R_X R_X "live" "LRetoldRun$Machine;",
  Cond.laysFinal R_X R_X "told" "LRetoldRun$Machine;",
  Cond.lays R_X R_X "begun" "Z",
  Cond.methodLink R_L 21 y_X_add,
  Cond.instanceMethod y_X_add,
  Cond.selects R_X y_X_add y_X_add,
  Cond.code y_X_add b_X_add 4 (Option.some Jvm.ClassFile.FieldType.int),
  Cond.methodLink R_X 64 y_X_isInstruction,
  Cond.static y_X_isInstruction,
  Cond.code y_X_isInstruction b_X_isInstruction 3 (Option.some Jvm.ClassFile.FieldType.boolean),
  Cond.methodLink R_X 68 y_P_append,
  Cond.instanceMethod y_P_append,
  Cond.selects R_P y_P_append y_P_append,
  Cond.code y_P_append b_P_append 4 (Option.some Jvm.ClassFile.FieldType.int),
  Cond.methodLink R_L 26 y_X_clear,
  Cond.instanceMethod y_X_clear,
  Cond.selects R_X y_X_clear y_X_clear,
  Cond.code y_X_clear b_X_clear 2 (Option.some Jvm.ClassFile.FieldType.int),
  Cond.methodLink R_X 75 y_M_restart,
  Cond.instanceMethod y_M_restart,
  Cond.selects R_M y_M_restart y_M_restart,
  Cond.code y_M_restart b_M_restart 2 none,
  Cond.methodLink R_M 22 y_A_fill,
  Cond.static y_A_fill,
  Cond.code y_A_fill b_A_fill 4 none,
  Cond.methodLink R_X 78 y_J_restart,
  Cond.instanceMethod y_J_restart,
  Cond.selects R_J y_J_restart y_J_restart,
  Cond.code y_J_restart b_J_restart 1 none,
  Cond.methodLink R_X 80 y_R_restart,
  Cond.instanceMethod y_R_restart,
  Cond.selects R_R y_R_restart y_R_restart,
  Cond.code y_R_restart b_R_restart 1 none,
  Cond.methodLink R_L 31 y_X_input,
  Cond.instanceMethod y_X_input,
  Cond.selects R_X y_X_input y_X_input,
  Cond.code y_X_input b_X_input 2 (Option.some Jvm.ClassFile.FieldType.int),
  Cond.methodLink R_X 81 y_R_addInput,
  Cond.instanceMethod y_R_addInput,
  Cond.selects R_R y_R_addInput y_R_addInput,
  Cond.code y_R_addInput b_R_addInput 2 (Option.some Jvm.ClassFile.FieldType.int),
  Cond.methodLink R_L 36 y_X_request,
  Cond.instanceMethod y_X_request,
  Cond.selects R_X y_X_request y_X_request,
  Cond.code y_X_request b_X_request 1 (Option.some Jvm.ClassFile.FieldType.boolean),
  Cond.methodLink R_L 41 y_X_pass,
  Cond.instanceMethod y_X_pass,
  Cond.selects R_X y_X_pass y_X_pass,
  Cond.code y_X_pass b_X_pass 2 (Option.some Jvm.ClassFile.FieldType.boolean),
  Cond.constant R_X 88 1000000,
  Cond.methodLink R_L 46 y_X_run,
  Cond.instanceMethod y_X_run,
  Cond.selects R_X y_X_run y_X_run,
  Cond.code y_X_run b_X_run 4 (Option.some Jvm.ClassFile.FieldType.int),
  Cond.methodLink R_X 93 y_M_step,
  Cond.instanceMethod y_M_step,
  Cond.selects R_M y_M_step y_M_step,
  Cond.code y_M_step b_M_step 4 (Option.some Jvm.ClassFile.FieldType.boolean),
  Cond.methodLink R_M 50 y_P_has,
  Cond.instanceMethod y_P_has,
  Cond.selects R_P y_P_has y_P_has,
  Cond.code y_P_has b_P_has 2 (Option.some Jvm.ClassFile.FieldType.boolean),
  Cond.methodLink R_M 56 y_O_takeInterrupt,
  Cond.sameMethod R_O R_O "takeInterrupt" "(I)Z",
  Cond.selects R_R y_O_takeInterrupt y_R_takeInterrupt,
  Cond.instanceMethod y_R_takeInterrupt,
  Cond.code y_R_takeInterrupt b_R_takeInterrupt 2 (Option.some Jvm.ClassFile.FieldType.boolean),
  Cond.methodLink R_R 33 y_J_beginEntry,
  Cond.instanceMethod y_J_beginEntry,
  Cond.selects R_J y_J_beginEntry y_J_beginEntry,
  Cond.code y_J_beginEntry b_J_beginEntry 3 none,
  Cond.methodLink R_J 28 y_J_writeNumber,
  Cond.instanceMethod y_J_writeNumber,
  Cond.selects R_J y_J_writeNumber y_J_writeNumber,
  Cond.code y_J_writeNumber b_J_writeNumber 6 none,
  Cond.static y_X_sealByte,
  Cond.code y_X_sealByte b_X_sealByte 3 (Option.some Jvm.ClassFile.FieldType.int),
  Cond.methodLink R_X 142 y_X_mix,
  Cond.static y_X_mix,
  Cond.code y_X_mix b_X_mix 2 (Option.some Jvm.ClassFile.FieldType.int),
  Cond.constant R_X 141 16777619,
  Cond.selects R_T y_O_takeInterrupt y_T_takeInterrupt,
  Cond.instanceMethod y_T_takeInterrupt,
  Cond.code y_T_takeInterrupt b_T_takeInterrupt 2 (Option.some Jvm.ClassFile.FieldType.boolean),
  Cond.methodLink R_T 34 y_T_hasEntry,
  Cond.instanceMethod y_T_hasEntry,
  Cond.code y_T_hasEntry b_T_hasEntry 4 (Option.some Jvm.ClassFile.FieldType.boolean),
  Cond.methodLink R_T 24 y_D_readEntry,
  Cond.instanceMethod y_D_readEntry,
  Cond.selects R_D y_D_readEntry y_D_readEntry,
  Cond.code y_D_readEntry b_D_readEntry 3 none,
  Cond.methodLink R_D 33 y_J_has,
  Cond.instanceMethod y_J_has,
  Cond.selects R_J y_J_has y_J_has,
  Cond.code y_J_has b_J_has 2 (Option.some Jvm.ClassFile.FieldType.boolean),
  Cond.methodLink R_D 39 y_D_readNumber,
  Cond.instanceMethod y_D_readNumber,
  Cond.code y_D_readNumber b_D_readNumber 4 (Option.some Jvm.ClassFile.FieldType.int),
  Cond.methodLink R_M 70 y_M_perform,
  Cond.instanceMethod y_M_perform,
  Cond.code y_M_perform b_M_perform 7 none,
  Cond.methodLink R_M 77 y_O_takeInput,
  Cond.sameMethod R_O R_O "takeInput" "(I)I",
  Cond.selects R_R y_O_takeInput y_R_takeInput,
  Cond.instanceMethod y_R_takeInput,
  Cond.code y_R_takeInput b_R_takeInput 3 (Option.some Jvm.ClassFile.FieldType.int),
  Cond.methodLink R_R 39 arraycopyName,
  Cond.static arraycopyName,
  Cond.native arraycopyName,
  Cond.methodLink R_R 45 y_J_writeNumber,
  Cond.selects R_T y_O_takeInput y_T_takeInput,
  Cond.instanceMethod y_T_takeInput,
  Cond.code y_T_takeInput b_T_takeInput 3 (Option.some Jvm.ClassFile.FieldType.int),
  Cond.methodLink R_M 81 y_O_readClock,
  Cond.sameMethod R_O R_O "readClock" "(I)I",
  Cond.selects R_R y_O_readClock y_R_readClock,
  Cond.instanceMethod y_R_readClock,
  Cond.code y_R_readClock b_R_readClock 2 (Option.some Jvm.ClassFile.FieldType.int),
  Cond.selects R_T y_O_readClock y_T_readClock,
  Cond.instanceMethod y_T_readClock,
  Cond.code y_T_readClock b_T_readClock 2 (Option.some Jvm.ClassFile.FieldType.int),
  Cond.constant R_M 84 1103515245,
  Cond.methodLink R_M 89 y_M_turn,
  Cond.instanceMethod y_M_turn,
  Cond.code y_M_turn b_M_turn 4 none,
  Cond.methodLink R_M 74 y_M_followTrace,
  Cond.instanceMethod y_M_followTrace,
  Cond.code y_M_followTrace b_M_followTrace 3 none,
  Cond.methodLink R_L 50 y_X_log,
  Cond.instanceMethod y_X_log,
  Cond.selects R_X y_X_log y_X_log,
  Cond.code y_X_log b_X_log 1 (Option.some Jvm.ClassFile.FieldType.int),
  Cond.methodLink R_L 54 y_X_at,
  Cond.instanceMethod y_X_at,
  Cond.selects R_X y_X_at y_X_at,
  Cond.code y_X_at b_X_at 2 (Option.some Jvm.ClassFile.FieldType.int),
  Cond.methodLink R_X 97 y_J_has,
  Cond.methodLink R_L 58 y_X_entries,
  Cond.instanceMethod y_X_entries,
  Cond.selects R_X y_X_entries y_X_entries,
  Cond.code y_X_entries b_X_entries 1 (Option.some Jvm.ClassFile.FieldType.int),
  Cond.methodLink R_L 62 y_X_seal,
  Cond.instanceMethod y_X_seal,
  Cond.selects R_X y_X_seal y_X_seal,
  Cond.code y_X_seal b_X_seal 1 (Option.some Jvm.ClassFile.FieldType.int),
  Cond.methodLink R_L 66 y_X_change,
  Cond.instanceMethod y_X_change,
  Cond.selects R_X y_X_change y_X_change,
  Cond.code y_X_change b_X_change 3 (Option.some Jvm.ClassFile.FieldType.boolean),
  Cond.methodLink R_L 71 y_X_tell,
  Cond.instanceMethod y_X_tell,
  Cond.selects R_X y_X_tell y_X_tell,
  Cond.code y_X_tell b_X_tell 4 (Option.some Jvm.ClassFile.FieldType.int),
  Cond.methodLink R_X 111 y_J_sealNow,
  Cond.instanceMethod y_J_sealNow,
  Cond.selects R_J y_J_sealNow y_J_sealNow,
  Cond.code y_J_sealNow b_J_sealNow 3 (Option.some Jvm.ClassFile.FieldType.int),
  Cond.methodLink R_X 115 y_T_isReadable,
  Cond.instanceMethod y_T_isReadable,
  Cond.selects R_T y_T_isReadable y_T_isReadable,
  Cond.code y_T_isReadable b_T_isReadable 2 (Option.some Jvm.ClassFile.FieldType.boolean),
  Cond.methodLink R_T 15 y_D_rewind,
  Cond.instanceMethod y_D_rewind,
  Cond.selects R_D y_D_rewind y_D_rewind,
  Cond.code y_D_rewind b_D_rewind 1 none,
  Cond.methodLink R_D 27 y_D_readEntry,
  Cond.methodLink R_X 119 y_T_restart,
  Cond.instanceMethod y_T_restart,
  Cond.selects R_T y_T_restart y_T_restart,
  Cond.code y_T_restart b_T_restart 1 none,
  Cond.methodLink R_X 123 y_M_looksLike,
  Cond.instanceMethod y_M_looksLike,
  Cond.selects R_M y_M_looksLike y_M_looksLike,
  Cond.code y_M_looksLike b_M_looksLike 3 (Option.some Jvm.ClassFile.FieldType.boolean),
  Cond.methodLink R_M 93 y_M_stateOf,
  Cond.instanceMethod y_M_stateOf,
  Cond.selects R_M y_M_stateOf y_M_stateOf,
  Cond.code y_M_stateOf b_M_stateOf 2 (Option.some Jvm.ClassFile.FieldType.int),
  Cond.methodLink R_L 76 y_X_state,
  Cond.instanceMethod y_X_state,
  Cond.selects R_X y_X_state y_X_state,
  Cond.code y_X_state b_X_state 4 (Option.some Jvm.ClassFile.FieldType.int),
  Cond.methodLink R_X 127 y_X_machineOf,
  Cond.instanceMethod y_X_machineOf,
  Cond.code y_X_machineOf b_X_machineOf 2 (Option.some (Jvm.ClassFile.FieldType.object "RetoldRun$Machine")),
  Cond.methodLink R_X 131 y_M_stateOf,
  Cond.methodLink R_L 80 y_X_cell,
  Cond.instanceMethod y_X_cell,
  Cond.selects R_X y_X_cell y_X_cell,
  Cond.code y_X_cell b_X_cell 4 (Option.some Jvm.ClassFile.FieldType.int),
  Cond.methodLink R_X 134 y_M_cellOf,
  Cond.instanceMethod y_M_cellOf,
  Cond.selects R_M y_M_cellOf y_M_cellOf,
  Cond.code y_M_cellOf b_M_cellOf 2 (Option.some Jvm.ClassFile.FieldType.int),
  Cond.methodLink R_L 83 y_X_sealed,
  Cond.instanceMethod y_X_sealed,
  Cond.selects R_X y_X_sealed y_X_sealed,
  Cond.code y_X_sealed b_X_sealed 6 (Option.some Jvm.ClassFile.FieldType.int),
  Cond.methodLink R_X 137 y_X_sealByte,
  Cond.methodLink R_L 9 y_L_cell,
  Cond.static y_L_cell,
  Cond.code y_L_cell b_L_cell 2 (Option.some Jvm.ClassFile.FieldType.int),
  Cond.classLink R_L 18 R_Y,
  Cond.instantiable R_Y 21,
  Cond.methodLink R_L 20 y_Y_init,
  Cond.instanceMethod y_Y_init,
  Cond.code y_Y_init b_Y_init 2 none,
  Cond.methodLink R_Y 1 objectInit,
  Cond.fieldLink R_Y 42 R_Y "seed" "I",
  Cond.fieldLink R_Y 49 R_Y "size" "I",
  Cond.fieldLink R_Y 7 R_Y "operation" "[I",
  Cond.fieldLink R_Y 13 R_Y "first" "[I",
  Cond.fieldLink R_Y 16 R_Y "second" "[I",
  Cond.fieldLink R_Y 52 R_Y "begun" "Z",
  Cond.fieldLink R_Y 19 R_Y "machine" "[I",
  Cond.fieldLink R_Y 60 R_Y "clock" "I",
  Cond.fieldLink R_Y 63 R_Y "waiting" "I",
  Cond.fieldLink R_Y 22 R_Y "inputs" "[I",
  Cond.fieldLink R_Y 66 R_Y "asked" "Z",
  Cond.fieldLink R_Y 69 R_Y "bytes" "I",
  Cond.fieldLink R_Y 25 R_Y "log" "[I",
  Cond.fieldLink R_Y 72 R_Y "entries" "I",
  Cond.fieldLink R_Y 75 R_Y "lastStep" "I",
  Cond.fieldLink R_Y 28 R_Y "seal" "I",
  Cond.fieldLink R_Y 95 R_Y "read" "I",
  Cond.fieldLink R_Y 134 R_Y "at" "I",
  Cond.fieldLink R_Y 32 R_Y "steps" "[J",
  Cond.fieldLink R_Y 36 R_Y "kinds" "[I",
  Cond.fieldLink R_Y 39 R_Y "values" "[I",
  Cond.laysFinal R_Y R_Y "seed" "I",
  Cond.lays R_Y R_Y "size" "I",
  Cond.laysFinal R_Y R_Y "operation" "[I",
  Cond.laysFinal R_Y R_Y "first" "[I",
  Cond.laysFinal R_Y R_Y "second" "[I",
  Cond.lays R_Y R_Y "begun" "Z",
  Cond.laysFinal R_Y R_Y "machine" "[I",
  Cond.lays R_Y R_Y "clock" "I",
  Cond.lays R_Y R_Y "waiting" "I",
  Cond.laysFinal R_Y R_Y "inputs" "[I",
  Cond.lays R_Y R_Y "asked" "Z",
  Cond.lays R_Y R_Y "bytes" "I",
  Cond.laysFinal R_Y R_Y "log" "[I",
  Cond.lays R_Y R_Y "entries" "I",
  Cond.lays R_Y R_Y "lastStep" "I",
  Cond.lays R_Y R_Y "seal" "I",
  Cond.lays R_Y R_Y "read" "I",
  Cond.lays R_Y R_Y "at" "I",
  Cond.laysFinal R_Y R_Y "steps" "[J",
  Cond.laysFinal R_Y R_Y "kinds" "[I",
  Cond.laysFinal R_Y R_Y "values" "[I",
  Cond.arrayClass Jvm.ClassFile.FieldType.long,
  Cond.methodLink R_L 25 y_Y_add,
  Cond.instanceMethod y_Y_add,
  Cond.selects R_Y y_Y_add y_Y_add,
  Cond.code y_Y_add b_Y_add 5 (Option.some Jvm.ClassFile.FieldType.int),
  Cond.methodLink R_Y 45 y_Y_in,
  Cond.static y_Y_in,
  Cond.code y_Y_in b_Y_in 3 (Option.some Jvm.ClassFile.FieldType.boolean),
  Cond.methodLink R_L 30 y_Y_clear,
  Cond.instanceMethod y_Y_clear,
  Cond.selects R_Y y_Y_clear y_Y_clear,
  Cond.code y_Y_clear b_Y_clear 2 (Option.some Jvm.ClassFile.FieldType.int),
  Cond.methodLink R_Y 56 y_Y_anew,
  Cond.instanceMethod y_Y_anew,
  Cond.code y_Y_anew b_Y_anew 3 none,
  Cond.methodLink R_L 35 y_Y_input,
  Cond.instanceMethod y_Y_input,
  Cond.selects R_Y y_Y_input y_Y_input,
  Cond.code y_Y_input b_Y_input 2 (Option.some Jvm.ClassFile.FieldType.int),
  Cond.methodLink R_L 40 y_Y_request,
  Cond.instanceMethod y_Y_request,
  Cond.selects R_Y y_Y_request y_Y_request,
  Cond.code y_Y_request b_Y_request 2 (Option.some Jvm.ClassFile.FieldType.boolean),
  Cond.methodLink R_L 45 y_Y_pass,
  Cond.instanceMethod y_Y_pass,
  Cond.selects R_Y y_Y_pass y_Y_pass,
  Cond.code y_Y_pass b_Y_pass 2 (Option.some Jvm.ClassFile.FieldType.boolean),
  Cond.constant R_Y 78 1000000,
  Cond.methodLink R_L 49 y_Y_run,
  Cond.instanceMethod y_Y_run,
  Cond.selects R_Y y_Y_run y_Y_run,
  Cond.code y_Y_run b_Y_run 3 (Option.some Jvm.ClassFile.FieldType.int),
  Cond.methodLink R_Y 131 y_Y_step,
  Cond.instanceMethod y_Y_step,
  Cond.code y_Y_step b_Y_step 4 none,
  Cond.methodLink R_Y 119 y_Y_interrupts,
  Cond.instanceMethod y_Y_interrupts,
  Cond.code y_Y_interrupts b_Y_interrupts 3 (Option.some Jvm.ClassFile.FieldType.boolean),
  Cond.methodLink R_Y 98 y_Y_found,
  Cond.instanceMethod y_Y_found,
  Cond.code y_Y_found b_Y_found 5 (Option.some Jvm.ClassFile.FieldType.int),
  Cond.methodLink R_Y 101 y_Y_writeEntry,
  Cond.instanceMethod y_Y_writeEntry,
  Cond.code y_Y_writeEntry b_Y_writeEntry 3 none,
  Cond.constantLong R_Y 89 4,
  Cond.methodLink R_Y 91 y_Y_writeNumber,
  Cond.instanceMethod y_Y_writeNumber,
  Cond.code y_Y_writeNumber b_Y_writeNumber 5 none,
  Cond.constantLong R_Y 84 128,
  Cond.methodLink R_Y 86 y_Y_writeByte,
  Cond.instanceMethod y_Y_writeByte,
  Cond.code y_Y_writeByte b_Y_writeByte 2 none,
  Cond.methodLink R_Y 80 y_Y_mix,
  Cond.static y_Y_mix,
  Cond.code y_Y_mix b_Y_mix 3 (Option.some Jvm.ClassFile.FieldType.int),
  Cond.constant R_Y 79 16777619,
  Cond.methodLink R_Y 123 y_Y_perform,
  Cond.instanceMethod y_Y_perform,
  Cond.code y_Y_perform b_Y_perform 8 none,
  Cond.methodLink R_Y 108 y_Y_mod,
  Cond.static y_Y_mod,
  Cond.code y_Y_mod b_Y_mod 3 (Option.some Jvm.ClassFile.FieldType.int),
  Cond.methodLink R_Y 111 y_Y_inputFor,
  Cond.instanceMethod y_Y_inputFor,
  Cond.code y_Y_inputFor b_Y_inputFor 4 (Option.some Jvm.ClassFile.FieldType.int),
  Cond.constantLong R_Y 104 2,
  Cond.constantLong R_Y 106 (-2),
  Cond.methodLink R_Y 115 y_Y_timeFor,
  Cond.instanceMethod y_Y_timeFor,
  Cond.code y_Y_timeFor b_Y_timeFor 4 (Option.some Jvm.ClassFile.FieldType.int),
  Cond.constant R_Y 118 1103515245,
  Cond.methodLink R_Y 127 y_Y_trace,
  Cond.instanceMethod y_Y_trace,
  Cond.code y_Y_trace b_Y_trace 3 none,
  Cond.methodLink R_L 75 y_Y_tell,
  Cond.instanceMethod y_Y_tell,
  Cond.selects R_Y y_Y_tell y_Y_tell,
  Cond.code y_Y_tell b_Y_tell 6 (Option.some Jvm.ClassFile.FieldType.int),
  Cond.methodLink R_Y 147 y_Y_sealNow,
  Cond.instanceMethod y_Y_sealNow,
  Cond.code y_Y_sealNow b_Y_sealNow 3 (Option.some Jvm.ClassFile.FieldType.int),
  Cond.methodLink R_Y 151 y_Y_readAll,
  Cond.instanceMethod y_Y_readAll,
  Cond.code y_Y_readAll b_Y_readAll 8 (Option.some Jvm.ClassFile.FieldType.boolean),
  Cond.methodLink R_Y 141 y_Y_readNumber,
  Cond.instanceMethod y_Y_readNumber,
  Cond.code y_Y_readNumber b_Y_readNumber 5 (Option.some Jvm.ClassFile.FieldType.long),
  Cond.constantLong R_Y 137 (-1),
  Cond.constantLong R_Y 139 4294967295,
  Cond.constantLong R_Y 145 3,
  Cond.methodLink R_L 53 y_Y_log,
  Cond.instanceMethod y_Y_log,
  Cond.selects R_Y y_Y_log y_Y_log,
  Cond.code y_Y_log b_Y_log 1 (Option.some Jvm.ClassFile.FieldType.int),
  Cond.methodLink R_L 57 y_Y_at,
  Cond.instanceMethod y_Y_at,
  Cond.selects R_Y y_Y_at y_Y_at,
  Cond.code y_Y_at b_Y_at 2 (Option.some Jvm.ClassFile.FieldType.int),
  Cond.methodLink R_L 61 y_Y_entries,
  Cond.instanceMethod y_Y_entries,
  Cond.selects R_Y y_Y_entries y_Y_entries,
  Cond.code y_Y_entries b_Y_entries 1 (Option.some Jvm.ClassFile.FieldType.int),
  Cond.methodLink R_L 65 y_Y_seal,
  Cond.instanceMethod y_Y_seal,
  Cond.selects R_Y y_Y_seal y_Y_seal,
  Cond.code y_Y_seal b_Y_seal 1 (Option.some Jvm.ClassFile.FieldType.int),
  Cond.methodLink R_L 70 y_Y_change,
  Cond.instanceMethod y_Y_change,
  Cond.selects R_Y y_Y_change y_Y_change,
  Cond.code y_Y_change b_Y_change 3 (Option.some Jvm.ClassFile.FieldType.boolean),
  Cond.methodLink R_L 79 y_Y_state,
  Cond.instanceMethod y_Y_state,
  Cond.selects R_Y y_Y_state y_Y_state,
  Cond.code y_Y_state b_Y_state 3 (Option.some Jvm.ClassFile.FieldType.int),
  Cond.methodLink R_L 82 y_Y_cell,
  Cond.instanceMethod y_Y_cell,
  Cond.selects R_Y y_Y_cell y_Y_cell,
  Cond.code y_Y_cell b_Y_cell 3 (Option.some Jvm.ClassFile.FieldType.int),
  Cond.methodLink R_L 86 y_Y_sealed,
  Cond.instanceMethod y_Y_sealed,
  Cond.selects R_Y y_Y_sealed y_Y_sealed,
  Cond.code y_Y_sealed b_Y_sealed 6 (Option.some Jvm.ClassFile.FieldType.int),
  Cond.selects R_T y_T_hasEntry y_T_hasEntry,
  Cond.selects R_D y_D_readNumber y_D_readNumber,
  Cond.selects R_M y_M_perform y_M_perform,
  Cond.selects R_M y_M_turn y_M_turn,
  Cond.selects R_M y_M_followTrace y_M_followTrace,
  Cond.selects R_X y_X_machineOf y_X_machineOf,
  Cond.selects R_Y y_Y_anew y_Y_anew,
  Cond.selects R_Y y_Y_step y_Y_step,
  Cond.selects R_Y y_Y_interrupts y_Y_interrupts,
  Cond.selects R_Y y_Y_found y_Y_found,
  Cond.selects R_Y y_Y_writeEntry y_Y_writeEntry,
  Cond.selects R_Y y_Y_writeNumber y_Y_writeNumber,
  Cond.selects R_Y y_Y_writeByte y_Y_writeByte,
  Cond.selects R_Y y_Y_perform y_Y_perform,
  Cond.selects R_Y y_Y_inputFor y_Y_inputFor,
  Cond.selects R_Y y_Y_timeFor y_Y_timeFor,
  Cond.selects R_Y y_Y_trace y_Y_trace,
  Cond.selects R_Y y_Y_sealNow y_Y_sealNow,
  Cond.selects R_Y y_Y_readAll y_Y_readAll,
  Cond.selects R_Y y_Y_readNumber y_Y_readNumber]
set_option maxRecDepth 20000 in
theorem tw_0 : Cond.initialized R_L ∈ zk_T := List.mem_of_getElem? (i := 0) rfl
set_option maxRecDepth 20000 in
theorem tw_1 : Cond.initialized R_X ∈ zk_T := List.mem_of_getElem? (i := 1) rfl
set_option maxRecDepth 20000 in
theorem tw_2 : Cond.initialized R_P ∈ zk_T := List.mem_of_getElem? (i := 2) rfl
set_option maxRecDepth 20000 in
theorem tw_3 : Cond.initialized R_J ∈ zk_T := List.mem_of_getElem? (i := 3) rfl
set_option maxRecDepth 20000 in
theorem tw_4 : Cond.initialized R_O ∈ zk_T := List.mem_of_getElem? (i := 4) rfl
set_option maxRecDepth 20000 in
theorem tw_5 : Cond.initialized R_R ∈ zk_T := List.mem_of_getElem? (i := 5) rfl
set_option maxRecDepth 20000 in
theorem tw_6 : Cond.initialized R_T ∈ zk_T := List.mem_of_getElem? (i := 6) rfl
set_option maxRecDepth 20000 in
theorem tw_7 : Cond.initialized R_D ∈ zk_T := List.mem_of_getElem? (i := 7) rfl
set_option maxRecDepth 20000 in
theorem tw_8 : Cond.initialized R_M ∈ zk_T := List.mem_of_getElem? (i := 8) rfl
set_option maxRecDepth 20000 in
theorem tw_9 : Cond.initialized R_Y ∈ zk_T := List.mem_of_getElem? (i := 9) rfl
set_option maxRecDepth 20000 in
theorem tw_10 : Cond.initialized "java/util/Arrays" ∈ zk_T := List.mem_of_getElem? (i := 10) rfl
set_option maxRecDepth 20000 in
theorem tw_11 : Cond.initialized "java/lang/System" ∈ zk_T := List.mem_of_getElem? (i := 11) rfl
set_option maxRecDepth 20000 in
theorem tw_12 : Cond.classLink R_L 7 R_X ∈ zk_T := List.mem_of_getElem? (i := 12) rfl
set_option maxRecDepth 20000 in
theorem tw_13 : Cond.instantiable R_X 8 ∈ zk_T := List.mem_of_getElem? (i := 13) rfl
set_option maxRecDepth 20000 in
theorem tw_14 : Cond.methodLink R_L 15 y_X_init ∈ zk_T := List.mem_of_getElem? (i := 14) rfl
set_option maxRecDepth 20000 in
theorem tw_15 : Cond.instanceMethod y_X_init ∈ zk_T := List.mem_of_getElem? (i := 15) rfl
set_option maxRecDepth 20000 in
theorem tw_16 : Cond.code y_X_init b_X_init 2 none ∈ zk_T := List.mem_of_getElem? (i := 16) rfl
set_option maxRecDepth 20000 in
theorem tw_17 : Cond.methodLink R_X 1 objectInit ∈ zk_T := List.mem_of_getElem? (i := 17) rfl
set_option maxRecDepth 20000 in
theorem tw_18 : Cond.instanceMethod objectInit ∈ zk_T := List.mem_of_getElem? (i := 18) rfl
set_option maxRecDepth 20000 in
theorem tw_19 : Cond.code objectInit ⟨#[0xb1]⟩ 1 none ∈ zk_T := List.mem_of_getElem? (i := 19) rfl
set_option maxRecDepth 20000 in
theorem tw_20 : Cond.classLink R_X 13 R_P ∈ zk_T := List.mem_of_getElem? (i := 20) rfl
set_option maxRecDepth 20000 in
theorem tw_21 : Cond.instantiable R_P 4 ∈ zk_T := List.mem_of_getElem? (i := 21) rfl
set_option maxRecDepth 20000 in
theorem tw_22 : Cond.instanceMethod y_P_init ∈ zk_T := List.mem_of_getElem? (i := 22) rfl
set_option maxRecDepth 20000 in
theorem tw_23 : Cond.code y_P_init b_P_init 1 none ∈ zk_T := List.mem_of_getElem? (i := 23) rfl
set_option maxRecDepth 20000 in
theorem tw_24 : Cond.methodLink R_P 3 objectInit ∈ zk_T := List.mem_of_getElem? (i := 24) rfl
set_option maxRecDepth 20000 in
theorem tw_25 : Cond.fieldLink R_P 9 R_P "operations" "[I" ∈ zk_T := List.mem_of_getElem? (i := 25) rfl
set_option maxRecDepth 20000 in
theorem tw_26 : Cond.fieldLink R_M 61 R_P "operations" "[I" ∈ zk_T := List.mem_of_getElem? (i := 26) rfl
set_option maxRecDepth 20000 in
theorem tw_27 : Cond.fieldLink R_P 15 R_P "firsts" "[I" ∈ zk_T := List.mem_of_getElem? (i := 27) rfl
set_option maxRecDepth 20000 in
theorem tw_28 : Cond.fieldLink R_M 64 R_P "firsts" "[I" ∈ zk_T := List.mem_of_getElem? (i := 28) rfl
set_option maxRecDepth 20000 in
theorem tw_29 : Cond.fieldLink R_P 18 R_P "seconds" "[I" ∈ zk_T := List.mem_of_getElem? (i := 29) rfl
set_option maxRecDepth 20000 in
theorem tw_30 : Cond.fieldLink R_M 67 R_P "seconds" "[I" ∈ zk_T := List.mem_of_getElem? (i := 30) rfl
set_option maxRecDepth 20000 in
theorem tw_31 : Cond.fieldLink R_P 21 R_P "size" "I" ∈ zk_T := List.mem_of_getElem? (i := 31) rfl
set_option maxRecDepth 20000 in
theorem tw_32 : Cond.fieldLink R_X 72 R_P "size" "I" ∈ zk_T := List.mem_of_getElem? (i := 32) rfl
set_option maxRecDepth 20000 in
theorem tw_33 : Cond.laysFinal R_P R_P "operations" "[I" ∈ zk_T := List.mem_of_getElem? (i := 33) rfl
set_option maxRecDepth 20000 in
theorem tw_34 : Cond.laysFinal R_P R_P "firsts" "[I" ∈ zk_T := List.mem_of_getElem? (i := 34) rfl
set_option maxRecDepth 20000 in
theorem tw_35 : Cond.laysFinal R_P R_P "seconds" "[I" ∈ zk_T := List.mem_of_getElem? (i := 35) rfl
set_option maxRecDepth 20000 in
theorem tw_36 : Cond.lays R_P R_P "size" "I" ∈ zk_T := List.mem_of_getElem? (i := 36) rfl
set_option maxRecDepth 20000 in
theorem tw_37 : Cond.arrayClass Jvm.ClassFile.FieldType.int ∈ zk_T := List.mem_of_getElem? (i := 37) rfl
set_option maxRecDepth 20000 in
theorem tw_38 : Cond.classLink R_X 20 R_J ∈ zk_T := List.mem_of_getElem? (i := 38) rfl
set_option maxRecDepth 20000 in
theorem tw_39 : Cond.instantiable R_J 5 ∈ zk_T := List.mem_of_getElem? (i := 39) rfl
set_option maxRecDepth 20000 in
theorem tw_40 : Cond.instanceMethod y_J_init ∈ zk_T := List.mem_of_getElem? (i := 40) rfl
set_option maxRecDepth 20000 in
theorem tw_41 : Cond.code y_J_init b_J_init 1 none ∈ zk_T := List.mem_of_getElem? (i := 41) rfl
set_option maxRecDepth 20000 in
theorem tw_42 : Cond.methodLink R_J 3 objectInit ∈ zk_T := List.mem_of_getElem? (i := 42) rfl
set_option maxRecDepth 20000 in
theorem tw_43 : Cond.fieldLink R_J 9 R_J "bytes" "[I" ∈ zk_T := List.mem_of_getElem? (i := 43) rfl
set_option maxRecDepth 20000 in
theorem tw_44 : Cond.fieldLink R_D 49 R_J "bytes" "[I" ∈ zk_T := List.mem_of_getElem? (i := 44) rfl
set_option maxRecDepth 20000 in
theorem tw_45 : Cond.fieldLink R_X 101 R_J "bytes" "[I" ∈ zk_T := List.mem_of_getElem? (i := 45) rfl
set_option maxRecDepth 20000 in
theorem tw_46 : Cond.fieldLink R_J 19 R_J "size" "I" ∈ zk_T := List.mem_of_getElem? (i := 46) rfl
set_option maxRecDepth 20000 in
theorem tw_47 : Cond.fieldLink R_X 92 R_J "size" "I" ∈ zk_T := List.mem_of_getElem? (i := 47) rfl
set_option maxRecDepth 20000 in
theorem tw_48 : Cond.fieldLink R_J 22 R_J "made" "I" ∈ zk_T := List.mem_of_getElem? (i := 48) rfl
set_option maxRecDepth 20000 in
theorem tw_49 : Cond.fieldLink R_X 105 R_J "made" "I" ∈ zk_T := List.mem_of_getElem? (i := 49) rfl
set_option maxRecDepth 20000 in
theorem tw_50 : Cond.fieldLink R_J 15 R_J "sealMade" "I" ∈ zk_T := List.mem_of_getElem? (i := 50) rfl
set_option maxRecDepth 20000 in
theorem tw_51 : Cond.fieldLink R_X 108 R_J "sealMade" "I" ∈ zk_T := List.mem_of_getElem? (i := 51) rfl
set_option maxRecDepth 20000 in
theorem tw_52 : Cond.fieldLink R_J 25 R_J "stepBefore" "I" ∈ zk_T := List.mem_of_getElem? (i := 52) rfl
set_option maxRecDepth 20000 in
theorem tw_53 : Cond.laysFinal R_J R_J "bytes" "[I" ∈ zk_T := List.mem_of_getElem? (i := 53) rfl
set_option maxRecDepth 20000 in
theorem tw_54 : Cond.lays R_J R_J "size" "I" ∈ zk_T := List.mem_of_getElem? (i := 54) rfl
set_option maxRecDepth 20000 in
theorem tw_55 : Cond.lays R_J R_J "made" "I" ∈ zk_T := List.mem_of_getElem? (i := 55) rfl
set_option maxRecDepth 20000 in
theorem tw_56 : Cond.lays R_J R_J "sealMade" "I" ∈ zk_T := List.mem_of_getElem? (i := 56) rfl
set_option maxRecDepth 20000 in
theorem tw_57 : Cond.lays R_J R_J "stepBefore" "I" ∈ zk_T := List.mem_of_getElem? (i := 57) rfl
set_option maxRecDepth 20000 in
theorem tw_58 : Cond.classLink R_X 27 R_R ∈ zk_T := List.mem_of_getElem? (i := 58) rfl
set_option maxRecDepth 20000 in
theorem tw_59 : Cond.instantiable R_R 6 ∈ zk_T := List.mem_of_getElem? (i := 59) rfl
set_option maxRecDepth 20000 in
theorem tw_60 : Cond.methodLink R_X 29 y_R_init ∈ zk_T := List.mem_of_getElem? (i := 60) rfl
set_option maxRecDepth 20000 in
theorem tw_61 : Cond.instanceMethod y_R_init ∈ zk_T := List.mem_of_getElem? (i := 61) rfl
set_option maxRecDepth 20000 in
theorem tw_62 : Cond.code y_R_init b_R_init 2 none ∈ zk_T := List.mem_of_getElem? (i := 62) rfl
set_option maxRecDepth 20000 in
theorem tw_63 : Cond.instanceMethod y_O_init ∈ zk_T := List.mem_of_getElem? (i := 63) rfl
set_option maxRecDepth 20000 in
theorem tw_64 : Cond.code y_O_init b_O_init 1 none ∈ zk_T := List.mem_of_getElem? (i := 64) rfl
set_option maxRecDepth 20000 in
theorem tw_65 : Cond.methodLink R_O 1 objectInit ∈ zk_T := List.mem_of_getElem? (i := 65) rfl
set_option maxRecDepth 20000 in
theorem tw_66 : Cond.fieldLink R_R 15 R_R "journal" "LRetoldRun$Journal;" ∈ zk_T := List.mem_of_getElem? (i := 66) rfl
set_option maxRecDepth 20000 in
theorem tw_67 : Cond.fieldLink R_R 9 R_R "inputs" "[I" ∈ zk_T := List.mem_of_getElem? (i := 67) rfl
set_option maxRecDepth 20000 in
theorem tw_68 : Cond.fieldLink R_R 19 R_R "waiting" "I" ∈ zk_T := List.mem_of_getElem? (i := 68) rfl
set_option maxRecDepth 20000 in
theorem tw_69 : Cond.fieldLink R_R 23 R_R "timeBefore" "I" ∈ zk_T := List.mem_of_getElem? (i := 69) rfl
set_option maxRecDepth 20000 in
theorem tw_70 : Cond.fieldLink R_R 26 R_R "requested" "Z" ∈ zk_T := List.mem_of_getElem? (i := 70) rfl
set_option maxRecDepth 20000 in
theorem tw_71 : Cond.fieldLink R_X 85 R_R "requested" "Z" ∈ zk_T := List.mem_of_getElem? (i := 71) rfl
set_option maxRecDepth 20000 in
theorem tw_72 : Cond.fieldLink R_R 30 R_R "clock" "I" ∈ zk_T := List.mem_of_getElem? (i := 72) rfl
set_option maxRecDepth 20000 in
theorem tw_73 : Cond.fieldLink R_X 89 R_R "clock" "I" ∈ zk_T := List.mem_of_getElem? (i := 73) rfl
set_option maxRecDepth 20000 in
theorem tw_74 : Cond.laysFinal R_R R_R "journal" "LRetoldRun$Journal;" ∈ zk_T := List.mem_of_getElem? (i := 74) rfl
set_option maxRecDepth 20000 in
theorem tw_75 : Cond.laysFinal R_R R_R "inputs" "[I" ∈ zk_T := List.mem_of_getElem? (i := 75) rfl
set_option maxRecDepth 20000 in
theorem tw_76 : Cond.lays R_R R_R "waiting" "I" ∈ zk_T := List.mem_of_getElem? (i := 76) rfl
set_option maxRecDepth 20000 in
theorem tw_77 : Cond.lays R_R R_R "timeBefore" "I" ∈ zk_T := List.mem_of_getElem? (i := 77) rfl
set_option maxRecDepth 20000 in
theorem tw_78 : Cond.lays R_R R_R "requested" "Z" ∈ zk_T := List.mem_of_getElem? (i := 78) rfl
set_option maxRecDepth 20000 in
theorem tw_79 : Cond.lays R_R R_R "clock" "I" ∈ zk_T := List.mem_of_getElem? (i := 79) rfl
set_option maxRecDepth 20000 in
theorem tw_80 : Cond.classLink R_X 36 R_T ∈ zk_T := List.mem_of_getElem? (i := 80) rfl
set_option maxRecDepth 20000 in
theorem tw_81 : Cond.instantiable R_T 2 ∈ zk_T := List.mem_of_getElem? (i := 81) rfl
set_option maxRecDepth 20000 in
theorem tw_82 : Cond.classLink R_X 38 R_D ∈ zk_T := List.mem_of_getElem? (i := 82) rfl
set_option maxRecDepth 20000 in
theorem tw_83 : Cond.instantiable R_D 7 ∈ zk_T := List.mem_of_getElem? (i := 83) rfl
set_option maxRecDepth 20000 in
theorem tw_84 : Cond.methodLink R_X 40 y_D_init ∈ zk_T := List.mem_of_getElem? (i := 84) rfl
set_option maxRecDepth 20000 in
theorem tw_85 : Cond.instanceMethod y_D_init ∈ zk_T := List.mem_of_getElem? (i := 85) rfl
set_option maxRecDepth 20000 in
theorem tw_86 : Cond.code y_D_init b_D_init 2 none ∈ zk_T := List.mem_of_getElem? (i := 86) rfl
set_option maxRecDepth 20000 in
theorem tw_87 : Cond.methodLink R_D 3 objectInit ∈ zk_T := List.mem_of_getElem? (i := 87) rfl
set_option maxRecDepth 20000 in
theorem tw_88 : Cond.fieldLink R_D 9 R_D "journal" "LRetoldRun$Journal;" ∈ zk_T := List.mem_of_getElem? (i := 88) rfl
set_option maxRecDepth 20000 in
theorem tw_89 : Cond.fieldLink R_D 15 R_D "position" "I" ∈ zk_T := List.mem_of_getElem? (i := 89) rfl
set_option maxRecDepth 20000 in
theorem tw_90 : Cond.fieldLink R_T 20 R_D "present" "Z" ∈ zk_T := List.mem_of_getElem? (i := 90) rfl
set_option maxRecDepth 20000 in
theorem tw_91 : Cond.fieldLink R_D 30 R_D "present" "Z" ∈ zk_T := List.mem_of_getElem? (i := 91) rfl
set_option maxRecDepth 20000 in
theorem tw_92 : Cond.fieldLink R_D 23 R_D "broken" "Z" ∈ zk_T := List.mem_of_getElem? (i := 92) rfl
set_option maxRecDepth 20000 in
theorem tw_93 : Cond.fieldLink R_T 27 R_D "broken" "Z" ∈ zk_T := List.mem_of_getElem? (i := 93) rfl
set_option maxRecDepth 20000 in
theorem tw_94 : Cond.fieldLink R_D 19 R_D "step" "J" ∈ zk_T := List.mem_of_getElem? (i := 94) rfl
set_option maxRecDepth 20000 in
theorem tw_95 : Cond.fieldLink R_T 41 R_D "step" "J" ∈ zk_T := List.mem_of_getElem? (i := 95) rfl
set_option maxRecDepth 20000 in
theorem tw_96 : Cond.fieldLink R_D 43 R_D "kind" "I" ∈ zk_T := List.mem_of_getElem? (i := 96) rfl
set_option maxRecDepth 20000 in
theorem tw_97 : Cond.fieldLink R_T 45 R_D "kind" "I" ∈ zk_T := List.mem_of_getElem? (i := 97) rfl
set_option maxRecDepth 20000 in
theorem tw_98 : Cond.fieldLink R_D 46 R_D "value" "I" ∈ zk_T := List.mem_of_getElem? (i := 98) rfl
set_option maxRecDepth 20000 in
theorem tw_99 : Cond.fieldLink R_T 38 R_D "value" "I" ∈ zk_T := List.mem_of_getElem? (i := 99) rfl
set_option maxRecDepth 20000 in
theorem tw_100 : Cond.laysFinal R_D R_D "journal" "LRetoldRun$Journal;" ∈ zk_T := List.mem_of_getElem? (i := 100) rfl
set_option maxRecDepth 20000 in
theorem tw_101 : Cond.lays R_D R_D "position" "I" ∈ zk_T := List.mem_of_getElem? (i := 101) rfl
set_option maxRecDepth 20000 in
theorem tw_102 : Cond.lays R_D R_D "present" "Z" ∈ zk_T := List.mem_of_getElem? (i := 102) rfl
set_option maxRecDepth 20000 in
theorem tw_103 : Cond.lays R_D R_D "broken" "Z" ∈ zk_T := List.mem_of_getElem? (i := 103) rfl
set_option maxRecDepth 20000 in
theorem tw_104 : Cond.lays R_D R_D "step" "J" ∈ zk_T := List.mem_of_getElem? (i := 104) rfl
set_option maxRecDepth 20000 in
theorem tw_105 : Cond.lays R_D R_D "kind" "I" ∈ zk_T := List.mem_of_getElem? (i := 105) rfl
set_option maxRecDepth 20000 in
theorem tw_106 : Cond.lays R_D R_D "value" "I" ∈ zk_T := List.mem_of_getElem? (i := 106) rfl
set_option maxRecDepth 20000 in
theorem tw_107 : Cond.methodLink R_X 41 y_T_init ∈ zk_T := List.mem_of_getElem? (i := 107) rfl
set_option maxRecDepth 20000 in
theorem tw_108 : Cond.instanceMethod y_T_init ∈ zk_T := List.mem_of_getElem? (i := 108) rfl
set_option maxRecDepth 20000 in
theorem tw_109 : Cond.code y_T_init b_T_init 2 none ∈ zk_T := List.mem_of_getElem? (i := 109) rfl
set_option maxRecDepth 20000 in
theorem tw_110 : Cond.fieldLink R_T 9 R_T "reader" "LRetoldRun$JournalReader;" ∈ zk_T := List.mem_of_getElem? (i := 110) rfl
set_option maxRecDepth 20000 in
theorem tw_111 : Cond.fieldLink R_T 30 R_T "timeBefore" "I" ∈ zk_T := List.mem_of_getElem? (i := 111) rfl
set_option maxRecDepth 20000 in
theorem tw_112 : Cond.laysFinal R_T R_T "reader" "LRetoldRun$JournalReader;" ∈ zk_T := List.mem_of_getElem? (i := 112) rfl
set_option maxRecDepth 20000 in
theorem tw_113 : Cond.lays R_T R_T "timeBefore" "I" ∈ zk_T := List.mem_of_getElem? (i := 113) rfl
set_option maxRecDepth 20000 in
theorem tw_114 : Cond.classLink R_X 48 R_M ∈ zk_T := List.mem_of_getElem? (i := 114) rfl
set_option maxRecDepth 20000 in
theorem tw_115 : Cond.instantiable R_M 10 ∈ zk_T := List.mem_of_getElem? (i := 115) rfl
set_option maxRecDepth 20000 in
theorem tw_116 : Cond.methodLink R_X 50 y_M_init ∈ zk_T := List.mem_of_getElem? (i := 116) rfl
set_option maxRecDepth 20000 in
theorem tw_117 : Cond.instanceMethod y_M_init ∈ zk_T := List.mem_of_getElem? (i := 117) rfl
set_option maxRecDepth 20000 in
theorem tw_118 : Cond.code y_M_init b_M_init 2 none ∈ zk_T := List.mem_of_getElem? (i := 118) rfl
set_option maxRecDepth 20000 in
theorem tw_119 : Cond.methodLink R_M 3 objectInit ∈ zk_T := List.mem_of_getElem? (i := 119) rfl
set_option maxRecDepth 20000 in
theorem tw_120 : Cond.fieldLink R_M 9 R_M "registers" "[I" ∈ zk_T := List.mem_of_getElem? (i := 120) rfl
set_option maxRecDepth 20000 in
theorem tw_121 : Cond.fieldLink R_M 15 R_M "cells" "[I" ∈ zk_T := List.mem_of_getElem? (i := 121) rfl
set_option maxRecDepth 20000 in
theorem tw_122 : Cond.fieldLink R_M 28 R_M "place" "I" ∈ zk_T := List.mem_of_getElem? (i := 122) rfl
set_option maxRecDepth 20000 in
theorem tw_123 : Cond.fieldLink R_M 31 R_M "back" "I" ∈ zk_T := List.mem_of_getElem? (i := 123) rfl
set_option maxRecDepth 20000 in
theorem tw_124 : Cond.fieldLink R_M 34 R_M "inside" "Z" ∈ zk_T := List.mem_of_getElem? (i := 124) rfl
set_option maxRecDepth 20000 in
theorem tw_125 : Cond.fieldLink R_M 38 R_M "ended" "Z" ∈ zk_T := List.mem_of_getElem? (i := 125) rfl
set_option maxRecDepth 20000 in
theorem tw_126 : Cond.fieldLink R_M 18 R_M "lot" "I" ∈ zk_T := List.mem_of_getElem? (i := 126) rfl
set_option maxRecDepth 20000 in
theorem tw_127 : Cond.fieldLink R_M 41 R_M "output" "I" ∈ zk_T := List.mem_of_getElem? (i := 127) rfl
set_option maxRecDepth 20000 in
theorem tw_128 : Cond.fieldLink R_M 44 R_M "trace" "I" ∈ zk_T := List.mem_of_getElem? (i := 128) rfl
set_option maxRecDepth 20000 in
theorem tw_129 : Cond.fieldLink R_M 47 R_M "steps" "I" ∈ zk_T := List.mem_of_getElem? (i := 129) rfl
set_option maxRecDepth 20000 in
theorem tw_130 : Cond.fieldLink R_X 120 R_M "steps" "I" ∈ zk_T := List.mem_of_getElem? (i := 130) rfl
set_option maxRecDepth 20000 in
theorem tw_131 : Cond.laysFinal R_M R_M "registers" "[I" ∈ zk_T := List.mem_of_getElem? (i := 131) rfl
set_option maxRecDepth 20000 in
theorem tw_132 : Cond.laysFinal R_M R_M "cells" "[I" ∈ zk_T := List.mem_of_getElem? (i := 132) rfl
set_option maxRecDepth 20000 in
theorem tw_133 : Cond.lays R_M R_M "place" "I" ∈ zk_T := List.mem_of_getElem? (i := 133) rfl
set_option maxRecDepth 20000 in
theorem tw_134 : Cond.lays R_M R_M "back" "I" ∈ zk_T := List.mem_of_getElem? (i := 134) rfl
set_option maxRecDepth 20000 in
theorem tw_135 : Cond.lays R_M R_M "inside" "Z" ∈ zk_T := List.mem_of_getElem? (i := 135) rfl
set_option maxRecDepth 20000 in
theorem tw_136 : Cond.lays R_M R_M "ended" "Z" ∈ zk_T := List.mem_of_getElem? (i := 136) rfl
set_option maxRecDepth 20000 in
theorem tw_137 : Cond.lays R_M R_M "lot" "I" ∈ zk_T := List.mem_of_getElem? (i := 137) rfl
set_option maxRecDepth 20000 in
theorem tw_138 : Cond.lays R_M R_M "output" "I" ∈ zk_T := List.mem_of_getElem? (i := 138) rfl
set_option maxRecDepth 20000 in
theorem tw_139 : Cond.lays R_M R_M "trace" "I" ∈ zk_T := List.mem_of_getElem? (i := 139) rfl
set_option maxRecDepth 20000 in
theorem tw_140 : Cond.lays R_M R_M "steps" "I" ∈ zk_T := List.mem_of_getElem? (i := 140) rfl
set_option maxRecDepth 20000 in
theorem tw_141 : Cond.fieldLink R_X 7 R_X "seed" "I" ∈ zk_T := List.mem_of_getElem? (i := 141) rfl
set_option maxRecDepth 20000 in
theorem tw_142 : Cond.fieldLink R_X 16 R_X "program" "LRetoldRun$Program;" ∈ zk_T := List.mem_of_getElem? (i := 142) rfl
set_option maxRecDepth 20000 in
theorem tw_143 : Cond.fieldLink R_X 23 R_X "journal" "LRetoldRun$Journal;" ∈ zk_T := List.mem_of_getElem? (i := 143) rfl
set_option maxRecDepth 20000 in
theorem tw_144 : Cond.fieldLink R_X 32 R_X "recording" "LRetoldRun$Recording;" ∈ zk_T := List.mem_of_getElem? (i := 144) rfl
set_option maxRecDepth 20000 in
theorem tw_145 : Cond.fieldLink R_X 44 R_X "retelling" "LRetoldRun$Retelling;" ∈ zk_T := List.mem_of_getElem? (i := 145) rfl
set_option maxRecDepth 20000 in
theorem tw_146 : Cond.fieldLink R_X 53 R_X "live" "LRetoldRun$Machine;" ∈ zk_T := List.mem_of_getElem? (i := 146) rfl
set_option maxRecDepth 20000 in
theorem tw_147 : Cond.fieldLink R_X 57 R_X "told" "LRetoldRun$Machine;" ∈ zk_T := List.mem_of_getElem? (i := 147) rfl
set_option maxRecDepth 20000 in
theorem tw_148 : Cond.fieldLink R_X 60 R_X "begun" "Z" ∈ zk_T := List.mem_of_getElem? (i := 148) rfl
set_option maxRecDepth 20000 in
theorem tw_149 : Cond.laysFinal R_X R_X "seed" "I" ∈ zk_T := List.mem_of_getElem? (i := 149) rfl
set_option maxRecDepth 20000 in
theorem tw_150 : Cond.laysFinal R_X R_X "program" "LRetoldRun$Program;" ∈ zk_T := List.mem_of_getElem? (i := 150) rfl
set_option maxRecDepth 20000 in
theorem tw_151 : Cond.laysFinal R_X R_X "journal" "LRetoldRun$Journal;" ∈ zk_T := List.mem_of_getElem? (i := 151) rfl
set_option maxRecDepth 20000 in
theorem tw_152 : Cond.laysFinal R_X R_X "recording" "LRetoldRun$Recording;" ∈ zk_T := List.mem_of_getElem? (i := 152) rfl
set_option maxRecDepth 20000 in
theorem tw_153 : Cond.laysFinal R_X R_X "retelling" "LRetoldRun$Retelling;" ∈ zk_T := List.mem_of_getElem? (i := 153) rfl
set_option maxRecDepth 20000 in
theorem tw_154 : Cond.laysFinal R_X R_X "live" "LRetoldRun$Machine;" ∈ zk_T := List.mem_of_getElem? (i := 154) rfl
set_option maxRecDepth 20000 in
theorem tw_155 : Cond.laysFinal R_X R_X "told" "LRetoldRun$Machine;" ∈ zk_T := List.mem_of_getElem? (i := 155) rfl
set_option maxRecDepth 20000 in
theorem tw_156 : Cond.lays R_X R_X "begun" "Z" ∈ zk_T := List.mem_of_getElem? (i := 156) rfl
set_option maxRecDepth 20000 in
theorem tw_157 : Cond.methodLink R_L 21 y_X_add ∈ zk_T := List.mem_of_getElem? (i := 157) rfl
set_option maxRecDepth 20000 in
theorem tw_158 : Cond.instanceMethod y_X_add ∈ zk_T := List.mem_of_getElem? (i := 158) rfl
set_option maxRecDepth 20000 in
theorem tw_159 : Cond.selects R_X y_X_add y_X_add ∈ zk_T := List.mem_of_getElem? (i := 159) rfl
set_option maxRecDepth 20000 in
theorem tw_160 : Cond.code y_X_add b_X_add 4 (Option.some Jvm.ClassFile.FieldType.int) ∈ zk_T := List.mem_of_getElem? (i := 160) rfl
set_option maxRecDepth 20000 in
theorem tw_161 : Cond.methodLink R_X 64 y_X_isInstruction ∈ zk_T := List.mem_of_getElem? (i := 161) rfl
set_option maxRecDepth 20000 in
theorem tw_162 : Cond.static y_X_isInstruction ∈ zk_T := List.mem_of_getElem? (i := 162) rfl
set_option maxRecDepth 20000 in
theorem tw_163 : Cond.code y_X_isInstruction b_X_isInstruction 3 (Option.some Jvm.ClassFile.FieldType.boolean) ∈ zk_T := List.mem_of_getElem? (i := 163) rfl
set_option maxRecDepth 20000 in
theorem tw_164 : Cond.methodLink R_X 68 y_P_append ∈ zk_T := List.mem_of_getElem? (i := 164) rfl
set_option maxRecDepth 20000 in
theorem tw_165 : Cond.instanceMethod y_P_append ∈ zk_T := List.mem_of_getElem? (i := 165) rfl
set_option maxRecDepth 20000 in
theorem tw_166 : Cond.selects R_P y_P_append y_P_append ∈ zk_T := List.mem_of_getElem? (i := 166) rfl
set_option maxRecDepth 20000 in
theorem tw_167 : Cond.code y_P_append b_P_append 4 (Option.some Jvm.ClassFile.FieldType.int) ∈ zk_T := List.mem_of_getElem? (i := 167) rfl
set_option maxRecDepth 20000 in
theorem tw_168 : Cond.methodLink R_L 26 y_X_clear ∈ zk_T := List.mem_of_getElem? (i := 168) rfl
set_option maxRecDepth 20000 in
theorem tw_169 : Cond.instanceMethod y_X_clear ∈ zk_T := List.mem_of_getElem? (i := 169) rfl
set_option maxRecDepth 20000 in
theorem tw_170 : Cond.selects R_X y_X_clear y_X_clear ∈ zk_T := List.mem_of_getElem? (i := 170) rfl
set_option maxRecDepth 20000 in
theorem tw_171 : Cond.code y_X_clear b_X_clear 2 (Option.some Jvm.ClassFile.FieldType.int) ∈ zk_T := List.mem_of_getElem? (i := 171) rfl
set_option maxRecDepth 20000 in
theorem tw_172 : Cond.methodLink R_X 75 y_M_restart ∈ zk_T := List.mem_of_getElem? (i := 172) rfl
set_option maxRecDepth 20000 in
theorem tw_173 : Cond.instanceMethod y_M_restart ∈ zk_T := List.mem_of_getElem? (i := 173) rfl
set_option maxRecDepth 20000 in
theorem tw_174 : Cond.selects R_M y_M_restart y_M_restart ∈ zk_T := List.mem_of_getElem? (i := 174) rfl
set_option maxRecDepth 20000 in
theorem tw_175 : Cond.code y_M_restart b_M_restart 2 none ∈ zk_T := List.mem_of_getElem? (i := 175) rfl
set_option maxRecDepth 20000 in
theorem tw_176 : Cond.methodLink R_M 22 y_A_fill ∈ zk_T := List.mem_of_getElem? (i := 176) rfl
set_option maxRecDepth 20000 in
theorem tw_177 : Cond.static y_A_fill ∈ zk_T := List.mem_of_getElem? (i := 177) rfl
set_option maxRecDepth 20000 in
theorem tw_178 : Cond.code y_A_fill b_A_fill 4 none ∈ zk_T := List.mem_of_getElem? (i := 178) rfl
set_option maxRecDepth 20000 in
theorem tw_179 : Cond.methodLink R_X 78 y_J_restart ∈ zk_T := List.mem_of_getElem? (i := 179) rfl
set_option maxRecDepth 20000 in
theorem tw_180 : Cond.instanceMethod y_J_restart ∈ zk_T := List.mem_of_getElem? (i := 180) rfl
set_option maxRecDepth 20000 in
theorem tw_181 : Cond.selects R_J y_J_restart y_J_restart ∈ zk_T := List.mem_of_getElem? (i := 181) rfl
set_option maxRecDepth 20000 in
theorem tw_182 : Cond.code y_J_restart b_J_restart 1 none ∈ zk_T := List.mem_of_getElem? (i := 182) rfl
set_option maxRecDepth 20000 in
theorem tw_183 : Cond.methodLink R_X 80 y_R_restart ∈ zk_T := List.mem_of_getElem? (i := 183) rfl
set_option maxRecDepth 20000 in
theorem tw_184 : Cond.instanceMethod y_R_restart ∈ zk_T := List.mem_of_getElem? (i := 184) rfl
set_option maxRecDepth 20000 in
theorem tw_185 : Cond.selects R_R y_R_restart y_R_restart ∈ zk_T := List.mem_of_getElem? (i := 185) rfl
set_option maxRecDepth 20000 in
theorem tw_186 : Cond.code y_R_restart b_R_restart 1 none ∈ zk_T := List.mem_of_getElem? (i := 186) rfl
set_option maxRecDepth 20000 in
theorem tw_187 : Cond.methodLink R_L 31 y_X_input ∈ zk_T := List.mem_of_getElem? (i := 187) rfl
set_option maxRecDepth 20000 in
theorem tw_188 : Cond.instanceMethod y_X_input ∈ zk_T := List.mem_of_getElem? (i := 188) rfl
set_option maxRecDepth 20000 in
theorem tw_189 : Cond.selects R_X y_X_input y_X_input ∈ zk_T := List.mem_of_getElem? (i := 189) rfl
set_option maxRecDepth 20000 in
theorem tw_190 : Cond.code y_X_input b_X_input 2 (Option.some Jvm.ClassFile.FieldType.int) ∈ zk_T := List.mem_of_getElem? (i := 190) rfl
set_option maxRecDepth 20000 in
theorem tw_191 : Cond.methodLink R_X 81 y_R_addInput ∈ zk_T := List.mem_of_getElem? (i := 191) rfl
set_option maxRecDepth 20000 in
theorem tw_192 : Cond.instanceMethod y_R_addInput ∈ zk_T := List.mem_of_getElem? (i := 192) rfl
set_option maxRecDepth 20000 in
theorem tw_193 : Cond.selects R_R y_R_addInput y_R_addInput ∈ zk_T := List.mem_of_getElem? (i := 193) rfl
set_option maxRecDepth 20000 in
theorem tw_194 : Cond.code y_R_addInput b_R_addInput 2 (Option.some Jvm.ClassFile.FieldType.int) ∈ zk_T := List.mem_of_getElem? (i := 194) rfl
set_option maxRecDepth 20000 in
theorem tw_195 : Cond.methodLink R_L 36 y_X_request ∈ zk_T := List.mem_of_getElem? (i := 195) rfl
set_option maxRecDepth 20000 in
theorem tw_196 : Cond.instanceMethod y_X_request ∈ zk_T := List.mem_of_getElem? (i := 196) rfl
set_option maxRecDepth 20000 in
theorem tw_197 : Cond.selects R_X y_X_request y_X_request ∈ zk_T := List.mem_of_getElem? (i := 197) rfl
set_option maxRecDepth 20000 in
theorem tw_198 : Cond.code y_X_request b_X_request 1 (Option.some Jvm.ClassFile.FieldType.boolean) ∈ zk_T := List.mem_of_getElem? (i := 198) rfl
set_option maxRecDepth 20000 in
theorem tw_199 : Cond.methodLink R_L 41 y_X_pass ∈ zk_T := List.mem_of_getElem? (i := 199) rfl
set_option maxRecDepth 20000 in
theorem tw_200 : Cond.instanceMethod y_X_pass ∈ zk_T := List.mem_of_getElem? (i := 200) rfl
set_option maxRecDepth 20000 in
theorem tw_201 : Cond.selects R_X y_X_pass y_X_pass ∈ zk_T := List.mem_of_getElem? (i := 201) rfl
set_option maxRecDepth 20000 in
theorem tw_202 : Cond.code y_X_pass b_X_pass 2 (Option.some Jvm.ClassFile.FieldType.boolean) ∈ zk_T := List.mem_of_getElem? (i := 202) rfl
set_option maxRecDepth 20000 in
theorem tw_203 : Cond.constant R_X 88 1000000 ∈ zk_T := List.mem_of_getElem? (i := 203) rfl
set_option maxRecDepth 20000 in
theorem tw_204 : Cond.methodLink R_L 46 y_X_run ∈ zk_T := List.mem_of_getElem? (i := 204) rfl
set_option maxRecDepth 20000 in
theorem tw_205 : Cond.instanceMethod y_X_run ∈ zk_T := List.mem_of_getElem? (i := 205) rfl
set_option maxRecDepth 20000 in
theorem tw_206 : Cond.selects R_X y_X_run y_X_run ∈ zk_T := List.mem_of_getElem? (i := 206) rfl
set_option maxRecDepth 20000 in
theorem tw_207 : Cond.code y_X_run b_X_run 4 (Option.some Jvm.ClassFile.FieldType.int) ∈ zk_T := List.mem_of_getElem? (i := 207) rfl
set_option maxRecDepth 20000 in
theorem tw_208 : Cond.methodLink R_X 93 y_M_step ∈ zk_T := List.mem_of_getElem? (i := 208) rfl
set_option maxRecDepth 20000 in
theorem tw_209 : Cond.instanceMethod y_M_step ∈ zk_T := List.mem_of_getElem? (i := 209) rfl
set_option maxRecDepth 20000 in
theorem tw_210 : Cond.selects R_M y_M_step y_M_step ∈ zk_T := List.mem_of_getElem? (i := 210) rfl
set_option maxRecDepth 20000 in
theorem tw_211 : Cond.code y_M_step b_M_step 4 (Option.some Jvm.ClassFile.FieldType.boolean) ∈ zk_T := List.mem_of_getElem? (i := 211) rfl
set_option maxRecDepth 20000 in
theorem tw_212 : Cond.methodLink R_M 50 y_P_has ∈ zk_T := List.mem_of_getElem? (i := 212) rfl
set_option maxRecDepth 20000 in
theorem tw_213 : Cond.instanceMethod y_P_has ∈ zk_T := List.mem_of_getElem? (i := 213) rfl
set_option maxRecDepth 20000 in
theorem tw_214 : Cond.selects R_P y_P_has y_P_has ∈ zk_T := List.mem_of_getElem? (i := 214) rfl
set_option maxRecDepth 20000 in
theorem tw_215 : Cond.code y_P_has b_P_has 2 (Option.some Jvm.ClassFile.FieldType.boolean) ∈ zk_T := List.mem_of_getElem? (i := 215) rfl
set_option maxRecDepth 20000 in
theorem tw_216 : Cond.methodLink R_M 56 y_O_takeInterrupt ∈ zk_T := List.mem_of_getElem? (i := 216) rfl
set_option maxRecDepth 20000 in
theorem tw_217 : Cond.sameMethod R_O R_O "takeInterrupt" "(I)Z" ∈ zk_T := List.mem_of_getElem? (i := 217) rfl
set_option maxRecDepth 20000 in
theorem tw_218 : Cond.selects R_R y_O_takeInterrupt y_R_takeInterrupt ∈ zk_T := List.mem_of_getElem? (i := 218) rfl
set_option maxRecDepth 20000 in
theorem tw_219 : Cond.instanceMethod y_R_takeInterrupt ∈ zk_T := List.mem_of_getElem? (i := 219) rfl
set_option maxRecDepth 20000 in
theorem tw_220 : Cond.code y_R_takeInterrupt b_R_takeInterrupt 2 (Option.some Jvm.ClassFile.FieldType.boolean) ∈ zk_T := List.mem_of_getElem? (i := 220) rfl
set_option maxRecDepth 20000 in
theorem tw_221 : Cond.methodLink R_R 33 y_J_beginEntry ∈ zk_T := List.mem_of_getElem? (i := 221) rfl
set_option maxRecDepth 20000 in
theorem tw_222 : Cond.instanceMethod y_J_beginEntry ∈ zk_T := List.mem_of_getElem? (i := 222) rfl
set_option maxRecDepth 20000 in
theorem tw_223 : Cond.selects R_J y_J_beginEntry y_J_beginEntry ∈ zk_T := List.mem_of_getElem? (i := 223) rfl
set_option maxRecDepth 20000 in
theorem tw_224 : Cond.code y_J_beginEntry b_J_beginEntry 3 none ∈ zk_T := List.mem_of_getElem? (i := 224) rfl
set_option maxRecDepth 20000 in
theorem tw_225 : Cond.methodLink R_J 28 y_J_writeNumber ∈ zk_T := List.mem_of_getElem? (i := 225) rfl
set_option maxRecDepth 20000 in
theorem tw_226 : Cond.instanceMethod y_J_writeNumber ∈ zk_T := List.mem_of_getElem? (i := 226) rfl
set_option maxRecDepth 20000 in
theorem tw_227 : Cond.selects R_J y_J_writeNumber y_J_writeNumber ∈ zk_T := List.mem_of_getElem? (i := 227) rfl
set_option maxRecDepth 20000 in
theorem tw_228 : Cond.code y_J_writeNumber b_J_writeNumber 6 none ∈ zk_T := List.mem_of_getElem? (i := 228) rfl
set_option maxRecDepth 20000 in
theorem tw_229 : Cond.static y_X_sealByte ∈ zk_T := List.mem_of_getElem? (i := 229) rfl
set_option maxRecDepth 20000 in
theorem tw_230 : Cond.code y_X_sealByte b_X_sealByte 3 (Option.some Jvm.ClassFile.FieldType.int) ∈ zk_T := List.mem_of_getElem? (i := 230) rfl
set_option maxRecDepth 20000 in
theorem tw_231 : Cond.methodLink R_X 142 y_X_mix ∈ zk_T := List.mem_of_getElem? (i := 231) rfl
set_option maxRecDepth 20000 in
theorem tw_232 : Cond.static y_X_mix ∈ zk_T := List.mem_of_getElem? (i := 232) rfl
set_option maxRecDepth 20000 in
theorem tw_233 : Cond.code y_X_mix b_X_mix 2 (Option.some Jvm.ClassFile.FieldType.int) ∈ zk_T := List.mem_of_getElem? (i := 233) rfl
set_option maxRecDepth 20000 in
theorem tw_234 : Cond.constant R_X 141 16777619 ∈ zk_T := List.mem_of_getElem? (i := 234) rfl
set_option maxRecDepth 20000 in
theorem tw_235 : Cond.selects R_T y_O_takeInterrupt y_T_takeInterrupt ∈ zk_T := List.mem_of_getElem? (i := 235) rfl
set_option maxRecDepth 20000 in
theorem tw_236 : Cond.instanceMethod y_T_takeInterrupt ∈ zk_T := List.mem_of_getElem? (i := 236) rfl
set_option maxRecDepth 20000 in
theorem tw_237 : Cond.code y_T_takeInterrupt b_T_takeInterrupt 2 (Option.some Jvm.ClassFile.FieldType.boolean) ∈ zk_T := List.mem_of_getElem? (i := 237) rfl
set_option maxRecDepth 20000 in
theorem tw_238 : Cond.methodLink R_T 34 y_T_hasEntry ∈ zk_T := List.mem_of_getElem? (i := 238) rfl
set_option maxRecDepth 20000 in
theorem tw_239 : Cond.instanceMethod y_T_hasEntry ∈ zk_T := List.mem_of_getElem? (i := 239) rfl
set_option maxRecDepth 20000 in
theorem tw_240 : Cond.code y_T_hasEntry b_T_hasEntry 4 (Option.some Jvm.ClassFile.FieldType.boolean) ∈ zk_T := List.mem_of_getElem? (i := 240) rfl
set_option maxRecDepth 20000 in
theorem tw_241 : Cond.methodLink R_T 24 y_D_readEntry ∈ zk_T := List.mem_of_getElem? (i := 241) rfl
set_option maxRecDepth 20000 in
theorem tw_242 : Cond.instanceMethod y_D_readEntry ∈ zk_T := List.mem_of_getElem? (i := 242) rfl
set_option maxRecDepth 20000 in
theorem tw_243 : Cond.selects R_D y_D_readEntry y_D_readEntry ∈ zk_T := List.mem_of_getElem? (i := 243) rfl
set_option maxRecDepth 20000 in
theorem tw_244 : Cond.code y_D_readEntry b_D_readEntry 3 none ∈ zk_T := List.mem_of_getElem? (i := 244) rfl
set_option maxRecDepth 20000 in
theorem tw_245 : Cond.methodLink R_D 33 y_J_has ∈ zk_T := List.mem_of_getElem? (i := 245) rfl
set_option maxRecDepth 20000 in
theorem tw_246 : Cond.instanceMethod y_J_has ∈ zk_T := List.mem_of_getElem? (i := 246) rfl
set_option maxRecDepth 20000 in
theorem tw_247 : Cond.selects R_J y_J_has y_J_has ∈ zk_T := List.mem_of_getElem? (i := 247) rfl
set_option maxRecDepth 20000 in
theorem tw_248 : Cond.code y_J_has b_J_has 2 (Option.some Jvm.ClassFile.FieldType.boolean) ∈ zk_T := List.mem_of_getElem? (i := 248) rfl
set_option maxRecDepth 20000 in
theorem tw_249 : Cond.methodLink R_D 39 y_D_readNumber ∈ zk_T := List.mem_of_getElem? (i := 249) rfl
set_option maxRecDepth 20000 in
theorem tw_250 : Cond.instanceMethod y_D_readNumber ∈ zk_T := List.mem_of_getElem? (i := 250) rfl
set_option maxRecDepth 20000 in
theorem tw_251 : Cond.code y_D_readNumber b_D_readNumber 4 (Option.some Jvm.ClassFile.FieldType.int) ∈ zk_T := List.mem_of_getElem? (i := 251) rfl
set_option maxRecDepth 20000 in
theorem tw_252 : Cond.methodLink R_M 70 y_M_perform ∈ zk_T := List.mem_of_getElem? (i := 252) rfl
set_option maxRecDepth 20000 in
theorem tw_253 : Cond.instanceMethod y_M_perform ∈ zk_T := List.mem_of_getElem? (i := 253) rfl
set_option maxRecDepth 20000 in
theorem tw_254 : Cond.code y_M_perform b_M_perform 7 none ∈ zk_T := List.mem_of_getElem? (i := 254) rfl
set_option maxRecDepth 20000 in
theorem tw_255 : Cond.methodLink R_M 77 y_O_takeInput ∈ zk_T := List.mem_of_getElem? (i := 255) rfl
set_option maxRecDepth 20000 in
theorem tw_256 : Cond.sameMethod R_O R_O "takeInput" "(I)I" ∈ zk_T := List.mem_of_getElem? (i := 256) rfl
set_option maxRecDepth 20000 in
theorem tw_257 : Cond.selects R_R y_O_takeInput y_R_takeInput ∈ zk_T := List.mem_of_getElem? (i := 257) rfl
set_option maxRecDepth 20000 in
theorem tw_258 : Cond.instanceMethod y_R_takeInput ∈ zk_T := List.mem_of_getElem? (i := 258) rfl
set_option maxRecDepth 20000 in
theorem tw_259 : Cond.code y_R_takeInput b_R_takeInput 3 (Option.some Jvm.ClassFile.FieldType.int) ∈ zk_T := List.mem_of_getElem? (i := 259) rfl
set_option maxRecDepth 20000 in
theorem tw_260 : Cond.methodLink R_R 39 arraycopyName ∈ zk_T := List.mem_of_getElem? (i := 260) rfl
set_option maxRecDepth 20000 in
theorem tw_261 : Cond.static arraycopyName ∈ zk_T := List.mem_of_getElem? (i := 261) rfl
set_option maxRecDepth 20000 in
theorem tw_262 : Cond.native arraycopyName ∈ zk_T := List.mem_of_getElem? (i := 262) rfl
set_option maxRecDepth 20000 in
theorem tw_263 : Cond.methodLink R_R 45 y_J_writeNumber ∈ zk_T := List.mem_of_getElem? (i := 263) rfl
set_option maxRecDepth 20000 in
theorem tw_264 : Cond.selects R_T y_O_takeInput y_T_takeInput ∈ zk_T := List.mem_of_getElem? (i := 264) rfl
set_option maxRecDepth 20000 in
theorem tw_265 : Cond.instanceMethod y_T_takeInput ∈ zk_T := List.mem_of_getElem? (i := 265) rfl
set_option maxRecDepth 20000 in
theorem tw_266 : Cond.code y_T_takeInput b_T_takeInput 3 (Option.some Jvm.ClassFile.FieldType.int) ∈ zk_T := List.mem_of_getElem? (i := 266) rfl
set_option maxRecDepth 20000 in
theorem tw_267 : Cond.methodLink R_M 81 y_O_readClock ∈ zk_T := List.mem_of_getElem? (i := 267) rfl
set_option maxRecDepth 20000 in
theorem tw_268 : Cond.sameMethod R_O R_O "readClock" "(I)I" ∈ zk_T := List.mem_of_getElem? (i := 268) rfl
set_option maxRecDepth 20000 in
theorem tw_269 : Cond.selects R_R y_O_readClock y_R_readClock ∈ zk_T := List.mem_of_getElem? (i := 269) rfl
set_option maxRecDepth 20000 in
theorem tw_270 : Cond.instanceMethod y_R_readClock ∈ zk_T := List.mem_of_getElem? (i := 270) rfl
set_option maxRecDepth 20000 in
theorem tw_271 : Cond.code y_R_readClock b_R_readClock 2 (Option.some Jvm.ClassFile.FieldType.int) ∈ zk_T := List.mem_of_getElem? (i := 271) rfl
set_option maxRecDepth 20000 in
theorem tw_272 : Cond.selects R_T y_O_readClock y_T_readClock ∈ zk_T := List.mem_of_getElem? (i := 272) rfl
set_option maxRecDepth 20000 in
theorem tw_273 : Cond.instanceMethod y_T_readClock ∈ zk_T := List.mem_of_getElem? (i := 273) rfl
set_option maxRecDepth 20000 in
theorem tw_274 : Cond.code y_T_readClock b_T_readClock 2 (Option.some Jvm.ClassFile.FieldType.int) ∈ zk_T := List.mem_of_getElem? (i := 274) rfl
set_option maxRecDepth 20000 in
theorem tw_275 : Cond.constant R_M 84 1103515245 ∈ zk_T := List.mem_of_getElem? (i := 275) rfl
set_option maxRecDepth 20000 in
theorem tw_276 : Cond.methodLink R_M 89 y_M_turn ∈ zk_T := List.mem_of_getElem? (i := 276) rfl
set_option maxRecDepth 20000 in
theorem tw_277 : Cond.instanceMethod y_M_turn ∈ zk_T := List.mem_of_getElem? (i := 277) rfl
set_option maxRecDepth 20000 in
theorem tw_278 : Cond.code y_M_turn b_M_turn 4 none ∈ zk_T := List.mem_of_getElem? (i := 278) rfl
set_option maxRecDepth 20000 in
theorem tw_279 : Cond.methodLink R_M 74 y_M_followTrace ∈ zk_T := List.mem_of_getElem? (i := 279) rfl
set_option maxRecDepth 20000 in
theorem tw_280 : Cond.instanceMethod y_M_followTrace ∈ zk_T := List.mem_of_getElem? (i := 280) rfl
set_option maxRecDepth 20000 in
theorem tw_281 : Cond.code y_M_followTrace b_M_followTrace 3 none ∈ zk_T := List.mem_of_getElem? (i := 281) rfl
set_option maxRecDepth 20000 in
theorem tw_282 : Cond.methodLink R_L 50 y_X_log ∈ zk_T := List.mem_of_getElem? (i := 282) rfl
set_option maxRecDepth 20000 in
theorem tw_283 : Cond.instanceMethod y_X_log ∈ zk_T := List.mem_of_getElem? (i := 283) rfl
set_option maxRecDepth 20000 in
theorem tw_284 : Cond.selects R_X y_X_log y_X_log ∈ zk_T := List.mem_of_getElem? (i := 284) rfl
set_option maxRecDepth 20000 in
theorem tw_285 : Cond.code y_X_log b_X_log 1 (Option.some Jvm.ClassFile.FieldType.int) ∈ zk_T := List.mem_of_getElem? (i := 285) rfl
set_option maxRecDepth 20000 in
theorem tw_286 : Cond.methodLink R_L 54 y_X_at ∈ zk_T := List.mem_of_getElem? (i := 286) rfl
set_option maxRecDepth 20000 in
theorem tw_287 : Cond.instanceMethod y_X_at ∈ zk_T := List.mem_of_getElem? (i := 287) rfl
set_option maxRecDepth 20000 in
theorem tw_288 : Cond.selects R_X y_X_at y_X_at ∈ zk_T := List.mem_of_getElem? (i := 288) rfl
set_option maxRecDepth 20000 in
theorem tw_289 : Cond.code y_X_at b_X_at 2 (Option.some Jvm.ClassFile.FieldType.int) ∈ zk_T := List.mem_of_getElem? (i := 289) rfl
set_option maxRecDepth 20000 in
theorem tw_290 : Cond.methodLink R_X 97 y_J_has ∈ zk_T := List.mem_of_getElem? (i := 290) rfl
set_option maxRecDepth 20000 in
theorem tw_291 : Cond.methodLink R_L 58 y_X_entries ∈ zk_T := List.mem_of_getElem? (i := 291) rfl
set_option maxRecDepth 20000 in
theorem tw_292 : Cond.instanceMethod y_X_entries ∈ zk_T := List.mem_of_getElem? (i := 292) rfl
set_option maxRecDepth 20000 in
theorem tw_293 : Cond.selects R_X y_X_entries y_X_entries ∈ zk_T := List.mem_of_getElem? (i := 293) rfl
set_option maxRecDepth 20000 in
theorem tw_294 : Cond.code y_X_entries b_X_entries 1 (Option.some Jvm.ClassFile.FieldType.int) ∈ zk_T := List.mem_of_getElem? (i := 294) rfl
set_option maxRecDepth 20000 in
theorem tw_295 : Cond.methodLink R_L 62 y_X_seal ∈ zk_T := List.mem_of_getElem? (i := 295) rfl
set_option maxRecDepth 20000 in
theorem tw_296 : Cond.instanceMethod y_X_seal ∈ zk_T := List.mem_of_getElem? (i := 296) rfl
set_option maxRecDepth 20000 in
theorem tw_297 : Cond.selects R_X y_X_seal y_X_seal ∈ zk_T := List.mem_of_getElem? (i := 297) rfl
set_option maxRecDepth 20000 in
theorem tw_298 : Cond.code y_X_seal b_X_seal 1 (Option.some Jvm.ClassFile.FieldType.int) ∈ zk_T := List.mem_of_getElem? (i := 298) rfl
set_option maxRecDepth 20000 in
theorem tw_299 : Cond.methodLink R_L 66 y_X_change ∈ zk_T := List.mem_of_getElem? (i := 299) rfl
set_option maxRecDepth 20000 in
theorem tw_300 : Cond.instanceMethod y_X_change ∈ zk_T := List.mem_of_getElem? (i := 300) rfl
set_option maxRecDepth 20000 in
theorem tw_301 : Cond.selects R_X y_X_change y_X_change ∈ zk_T := List.mem_of_getElem? (i := 301) rfl
set_option maxRecDepth 20000 in
theorem tw_302 : Cond.code y_X_change b_X_change 3 (Option.some Jvm.ClassFile.FieldType.boolean) ∈ zk_T := List.mem_of_getElem? (i := 302) rfl
set_option maxRecDepth 20000 in
theorem tw_303 : Cond.methodLink R_L 71 y_X_tell ∈ zk_T := List.mem_of_getElem? (i := 303) rfl
set_option maxRecDepth 20000 in
theorem tw_304 : Cond.instanceMethod y_X_tell ∈ zk_T := List.mem_of_getElem? (i := 304) rfl
set_option maxRecDepth 20000 in
theorem tw_305 : Cond.selects R_X y_X_tell y_X_tell ∈ zk_T := List.mem_of_getElem? (i := 305) rfl
set_option maxRecDepth 20000 in
theorem tw_306 : Cond.code y_X_tell b_X_tell 4 (Option.some Jvm.ClassFile.FieldType.int) ∈ zk_T := List.mem_of_getElem? (i := 306) rfl
set_option maxRecDepth 20000 in
theorem tw_307 : Cond.methodLink R_X 111 y_J_sealNow ∈ zk_T := List.mem_of_getElem? (i := 307) rfl
set_option maxRecDepth 20000 in
theorem tw_308 : Cond.instanceMethod y_J_sealNow ∈ zk_T := List.mem_of_getElem? (i := 308) rfl
set_option maxRecDepth 20000 in
theorem tw_309 : Cond.selects R_J y_J_sealNow y_J_sealNow ∈ zk_T := List.mem_of_getElem? (i := 309) rfl
set_option maxRecDepth 20000 in
theorem tw_310 : Cond.code y_J_sealNow b_J_sealNow 3 (Option.some Jvm.ClassFile.FieldType.int) ∈ zk_T := List.mem_of_getElem? (i := 310) rfl
set_option maxRecDepth 20000 in
theorem tw_311 : Cond.methodLink R_X 115 y_T_isReadable ∈ zk_T := List.mem_of_getElem? (i := 311) rfl
set_option maxRecDepth 20000 in
theorem tw_312 : Cond.instanceMethod y_T_isReadable ∈ zk_T := List.mem_of_getElem? (i := 312) rfl
set_option maxRecDepth 20000 in
theorem tw_313 : Cond.selects R_T y_T_isReadable y_T_isReadable ∈ zk_T := List.mem_of_getElem? (i := 313) rfl
set_option maxRecDepth 20000 in
theorem tw_314 : Cond.code y_T_isReadable b_T_isReadable 2 (Option.some Jvm.ClassFile.FieldType.boolean) ∈ zk_T := List.mem_of_getElem? (i := 314) rfl
set_option maxRecDepth 20000 in
theorem tw_315 : Cond.methodLink R_T 15 y_D_rewind ∈ zk_T := List.mem_of_getElem? (i := 315) rfl
set_option maxRecDepth 20000 in
theorem tw_316 : Cond.instanceMethod y_D_rewind ∈ zk_T := List.mem_of_getElem? (i := 316) rfl
set_option maxRecDepth 20000 in
theorem tw_317 : Cond.selects R_D y_D_rewind y_D_rewind ∈ zk_T := List.mem_of_getElem? (i := 317) rfl
set_option maxRecDepth 20000 in
theorem tw_318 : Cond.code y_D_rewind b_D_rewind 1 none ∈ zk_T := List.mem_of_getElem? (i := 318) rfl
set_option maxRecDepth 20000 in
theorem tw_319 : Cond.methodLink R_D 27 y_D_readEntry ∈ zk_T := List.mem_of_getElem? (i := 319) rfl
set_option maxRecDepth 20000 in
theorem tw_320 : Cond.methodLink R_X 119 y_T_restart ∈ zk_T := List.mem_of_getElem? (i := 320) rfl
set_option maxRecDepth 20000 in
theorem tw_321 : Cond.instanceMethod y_T_restart ∈ zk_T := List.mem_of_getElem? (i := 321) rfl
set_option maxRecDepth 20000 in
theorem tw_322 : Cond.selects R_T y_T_restart y_T_restart ∈ zk_T := List.mem_of_getElem? (i := 322) rfl
set_option maxRecDepth 20000 in
theorem tw_323 : Cond.code y_T_restart b_T_restart 1 none ∈ zk_T := List.mem_of_getElem? (i := 323) rfl
set_option maxRecDepth 20000 in
theorem tw_324 : Cond.methodLink R_X 123 y_M_looksLike ∈ zk_T := List.mem_of_getElem? (i := 324) rfl
set_option maxRecDepth 20000 in
theorem tw_325 : Cond.instanceMethod y_M_looksLike ∈ zk_T := List.mem_of_getElem? (i := 325) rfl
set_option maxRecDepth 20000 in
theorem tw_326 : Cond.selects R_M y_M_looksLike y_M_looksLike ∈ zk_T := List.mem_of_getElem? (i := 326) rfl
set_option maxRecDepth 20000 in
theorem tw_327 : Cond.code y_M_looksLike b_M_looksLike 3 (Option.some Jvm.ClassFile.FieldType.boolean) ∈ zk_T := List.mem_of_getElem? (i := 327) rfl
set_option maxRecDepth 20000 in
theorem tw_328 : Cond.methodLink R_M 93 y_M_stateOf ∈ zk_T := List.mem_of_getElem? (i := 328) rfl
set_option maxRecDepth 20000 in
theorem tw_329 : Cond.instanceMethod y_M_stateOf ∈ zk_T := List.mem_of_getElem? (i := 329) rfl
set_option maxRecDepth 20000 in
theorem tw_330 : Cond.selects R_M y_M_stateOf y_M_stateOf ∈ zk_T := List.mem_of_getElem? (i := 330) rfl
set_option maxRecDepth 20000 in
theorem tw_331 : Cond.code y_M_stateOf b_M_stateOf 2 (Option.some Jvm.ClassFile.FieldType.int) ∈ zk_T := List.mem_of_getElem? (i := 331) rfl
set_option maxRecDepth 20000 in
theorem tw_332 : Cond.methodLink R_L 76 y_X_state ∈ zk_T := List.mem_of_getElem? (i := 332) rfl
set_option maxRecDepth 20000 in
theorem tw_333 : Cond.instanceMethod y_X_state ∈ zk_T := List.mem_of_getElem? (i := 333) rfl
set_option maxRecDepth 20000 in
theorem tw_334 : Cond.selects R_X y_X_state y_X_state ∈ zk_T := List.mem_of_getElem? (i := 334) rfl
set_option maxRecDepth 20000 in
theorem tw_335 : Cond.code y_X_state b_X_state 4 (Option.some Jvm.ClassFile.FieldType.int) ∈ zk_T := List.mem_of_getElem? (i := 335) rfl
set_option maxRecDepth 20000 in
theorem tw_336 : Cond.methodLink R_X 127 y_X_machineOf ∈ zk_T := List.mem_of_getElem? (i := 336) rfl
set_option maxRecDepth 20000 in
theorem tw_337 : Cond.instanceMethod y_X_machineOf ∈ zk_T := List.mem_of_getElem? (i := 337) rfl
set_option maxRecDepth 20000 in
theorem tw_338 : Cond.code y_X_machineOf b_X_machineOf 2 (Option.some (Jvm.ClassFile.FieldType.object "RetoldRun$Machine")) ∈ zk_T := List.mem_of_getElem? (i := 338) rfl
set_option maxRecDepth 20000 in
theorem tw_339 : Cond.methodLink R_X 131 y_M_stateOf ∈ zk_T := List.mem_of_getElem? (i := 339) rfl
set_option maxRecDepth 20000 in
theorem tw_340 : Cond.methodLink R_L 80 y_X_cell ∈ zk_T := List.mem_of_getElem? (i := 340) rfl
set_option maxRecDepth 20000 in
theorem tw_341 : Cond.instanceMethod y_X_cell ∈ zk_T := List.mem_of_getElem? (i := 341) rfl
set_option maxRecDepth 20000 in
theorem tw_342 : Cond.selects R_X y_X_cell y_X_cell ∈ zk_T := List.mem_of_getElem? (i := 342) rfl
set_option maxRecDepth 20000 in
theorem tw_343 : Cond.code y_X_cell b_X_cell 4 (Option.some Jvm.ClassFile.FieldType.int) ∈ zk_T := List.mem_of_getElem? (i := 343) rfl
set_option maxRecDepth 20000 in
theorem tw_344 : Cond.methodLink R_X 134 y_M_cellOf ∈ zk_T := List.mem_of_getElem? (i := 344) rfl
set_option maxRecDepth 20000 in
theorem tw_345 : Cond.instanceMethod y_M_cellOf ∈ zk_T := List.mem_of_getElem? (i := 345) rfl
set_option maxRecDepth 20000 in
theorem tw_346 : Cond.selects R_M y_M_cellOf y_M_cellOf ∈ zk_T := List.mem_of_getElem? (i := 346) rfl
set_option maxRecDepth 20000 in
theorem tw_347 : Cond.code y_M_cellOf b_M_cellOf 2 (Option.some Jvm.ClassFile.FieldType.int) ∈ zk_T := List.mem_of_getElem? (i := 347) rfl
set_option maxRecDepth 20000 in
theorem tw_348 : Cond.methodLink R_L 83 y_X_sealed ∈ zk_T := List.mem_of_getElem? (i := 348) rfl
set_option maxRecDepth 20000 in
theorem tw_349 : Cond.instanceMethod y_X_sealed ∈ zk_T := List.mem_of_getElem? (i := 349) rfl
set_option maxRecDepth 20000 in
theorem tw_350 : Cond.selects R_X y_X_sealed y_X_sealed ∈ zk_T := List.mem_of_getElem? (i := 350) rfl
set_option maxRecDepth 20000 in
theorem tw_351 : Cond.code y_X_sealed b_X_sealed 6 (Option.some Jvm.ClassFile.FieldType.int) ∈ zk_T := List.mem_of_getElem? (i := 351) rfl
set_option maxRecDepth 20000 in
theorem tw_352 : Cond.methodLink R_X 137 y_X_sealByte ∈ zk_T := List.mem_of_getElem? (i := 352) rfl
set_option maxRecDepth 20000 in
theorem tw_353 : Cond.methodLink R_L 9 y_L_cell ∈ zk_T := List.mem_of_getElem? (i := 353) rfl
set_option maxRecDepth 20000 in
theorem tw_354 : Cond.static y_L_cell ∈ zk_T := List.mem_of_getElem? (i := 354) rfl
set_option maxRecDepth 20000 in
theorem tw_355 : Cond.code y_L_cell b_L_cell 2 (Option.some Jvm.ClassFile.FieldType.int) ∈ zk_T := List.mem_of_getElem? (i := 355) rfl
set_option maxRecDepth 20000 in
theorem tw_356 : Cond.classLink R_L 18 R_Y ∈ zk_T := List.mem_of_getElem? (i := 356) rfl
set_option maxRecDepth 20000 in
theorem tw_357 : Cond.instantiable R_Y 21 ∈ zk_T := List.mem_of_getElem? (i := 357) rfl
set_option maxRecDepth 20000 in
theorem tw_358 : Cond.methodLink R_L 20 y_Y_init ∈ zk_T := List.mem_of_getElem? (i := 358) rfl
set_option maxRecDepth 20000 in
theorem tw_359 : Cond.instanceMethod y_Y_init ∈ zk_T := List.mem_of_getElem? (i := 359) rfl
set_option maxRecDepth 20000 in
theorem tw_360 : Cond.code y_Y_init b_Y_init 2 none ∈ zk_T := List.mem_of_getElem? (i := 360) rfl
set_option maxRecDepth 20000 in
theorem tw_361 : Cond.methodLink R_Y 1 objectInit ∈ zk_T := List.mem_of_getElem? (i := 361) rfl
set_option maxRecDepth 20000 in
theorem tw_362 : Cond.fieldLink R_Y 42 R_Y "seed" "I" ∈ zk_T := List.mem_of_getElem? (i := 362) rfl
set_option maxRecDepth 20000 in
theorem tw_363 : Cond.fieldLink R_Y 49 R_Y "size" "I" ∈ zk_T := List.mem_of_getElem? (i := 363) rfl
set_option maxRecDepth 20000 in
theorem tw_364 : Cond.fieldLink R_Y 7 R_Y "operation" "[I" ∈ zk_T := List.mem_of_getElem? (i := 364) rfl
set_option maxRecDepth 20000 in
theorem tw_365 : Cond.fieldLink R_Y 13 R_Y "first" "[I" ∈ zk_T := List.mem_of_getElem? (i := 365) rfl
set_option maxRecDepth 20000 in
theorem tw_366 : Cond.fieldLink R_Y 16 R_Y "second" "[I" ∈ zk_T := List.mem_of_getElem? (i := 366) rfl
set_option maxRecDepth 20000 in
theorem tw_367 : Cond.fieldLink R_Y 52 R_Y "begun" "Z" ∈ zk_T := List.mem_of_getElem? (i := 367) rfl
set_option maxRecDepth 20000 in
theorem tw_368 : Cond.fieldLink R_Y 19 R_Y "machine" "[I" ∈ zk_T := List.mem_of_getElem? (i := 368) rfl
set_option maxRecDepth 20000 in
theorem tw_369 : Cond.fieldLink R_Y 60 R_Y "clock" "I" ∈ zk_T := List.mem_of_getElem? (i := 369) rfl
set_option maxRecDepth 20000 in
theorem tw_370 : Cond.fieldLink R_Y 63 R_Y "waiting" "I" ∈ zk_T := List.mem_of_getElem? (i := 370) rfl
set_option maxRecDepth 20000 in
theorem tw_371 : Cond.fieldLink R_Y 22 R_Y "inputs" "[I" ∈ zk_T := List.mem_of_getElem? (i := 371) rfl
set_option maxRecDepth 20000 in
theorem tw_372 : Cond.fieldLink R_Y 66 R_Y "asked" "Z" ∈ zk_T := List.mem_of_getElem? (i := 372) rfl
set_option maxRecDepth 20000 in
theorem tw_373 : Cond.fieldLink R_Y 69 R_Y "bytes" "I" ∈ zk_T := List.mem_of_getElem? (i := 373) rfl
set_option maxRecDepth 20000 in
theorem tw_374 : Cond.fieldLink R_Y 25 R_Y "log" "[I" ∈ zk_T := List.mem_of_getElem? (i := 374) rfl
set_option maxRecDepth 20000 in
theorem tw_375 : Cond.fieldLink R_Y 72 R_Y "entries" "I" ∈ zk_T := List.mem_of_getElem? (i := 375) rfl
set_option maxRecDepth 20000 in
theorem tw_376 : Cond.fieldLink R_Y 75 R_Y "lastStep" "I" ∈ zk_T := List.mem_of_getElem? (i := 376) rfl
set_option maxRecDepth 20000 in
theorem tw_377 : Cond.fieldLink R_Y 28 R_Y "seal" "I" ∈ zk_T := List.mem_of_getElem? (i := 377) rfl
set_option maxRecDepth 20000 in
theorem tw_378 : Cond.fieldLink R_Y 95 R_Y "read" "I" ∈ zk_T := List.mem_of_getElem? (i := 378) rfl
set_option maxRecDepth 20000 in
theorem tw_379 : Cond.fieldLink R_Y 134 R_Y "at" "I" ∈ zk_T := List.mem_of_getElem? (i := 379) rfl
set_option maxRecDepth 20000 in
theorem tw_380 : Cond.fieldLink R_Y 32 R_Y "steps" "[J" ∈ zk_T := List.mem_of_getElem? (i := 380) rfl
set_option maxRecDepth 20000 in
theorem tw_381 : Cond.fieldLink R_Y 36 R_Y "kinds" "[I" ∈ zk_T := List.mem_of_getElem? (i := 381) rfl
set_option maxRecDepth 20000 in
theorem tw_382 : Cond.fieldLink R_Y 39 R_Y "values" "[I" ∈ zk_T := List.mem_of_getElem? (i := 382) rfl
set_option maxRecDepth 20000 in
theorem tw_383 : Cond.laysFinal R_Y R_Y "seed" "I" ∈ zk_T := List.mem_of_getElem? (i := 383) rfl
set_option maxRecDepth 20000 in
theorem tw_384 : Cond.lays R_Y R_Y "size" "I" ∈ zk_T := List.mem_of_getElem? (i := 384) rfl
set_option maxRecDepth 20000 in
theorem tw_385 : Cond.laysFinal R_Y R_Y "operation" "[I" ∈ zk_T := List.mem_of_getElem? (i := 385) rfl
set_option maxRecDepth 20000 in
theorem tw_386 : Cond.laysFinal R_Y R_Y "first" "[I" ∈ zk_T := List.mem_of_getElem? (i := 386) rfl
set_option maxRecDepth 20000 in
theorem tw_387 : Cond.laysFinal R_Y R_Y "second" "[I" ∈ zk_T := List.mem_of_getElem? (i := 387) rfl
set_option maxRecDepth 20000 in
theorem tw_388 : Cond.lays R_Y R_Y "begun" "Z" ∈ zk_T := List.mem_of_getElem? (i := 388) rfl
set_option maxRecDepth 20000 in
theorem tw_389 : Cond.laysFinal R_Y R_Y "machine" "[I" ∈ zk_T := List.mem_of_getElem? (i := 389) rfl
set_option maxRecDepth 20000 in
theorem tw_390 : Cond.lays R_Y R_Y "clock" "I" ∈ zk_T := List.mem_of_getElem? (i := 390) rfl
set_option maxRecDepth 20000 in
theorem tw_391 : Cond.lays R_Y R_Y "waiting" "I" ∈ zk_T := List.mem_of_getElem? (i := 391) rfl
set_option maxRecDepth 20000 in
theorem tw_392 : Cond.laysFinal R_Y R_Y "inputs" "[I" ∈ zk_T := List.mem_of_getElem? (i := 392) rfl
set_option maxRecDepth 20000 in
theorem tw_393 : Cond.lays R_Y R_Y "asked" "Z" ∈ zk_T := List.mem_of_getElem? (i := 393) rfl
set_option maxRecDepth 20000 in
theorem tw_394 : Cond.lays R_Y R_Y "bytes" "I" ∈ zk_T := List.mem_of_getElem? (i := 394) rfl
set_option maxRecDepth 20000 in
theorem tw_395 : Cond.laysFinal R_Y R_Y "log" "[I" ∈ zk_T := List.mem_of_getElem? (i := 395) rfl
set_option maxRecDepth 20000 in
theorem tw_396 : Cond.lays R_Y R_Y "entries" "I" ∈ zk_T := List.mem_of_getElem? (i := 396) rfl
set_option maxRecDepth 20000 in
theorem tw_397 : Cond.lays R_Y R_Y "lastStep" "I" ∈ zk_T := List.mem_of_getElem? (i := 397) rfl
set_option maxRecDepth 20000 in
theorem tw_398 : Cond.lays R_Y R_Y "seal" "I" ∈ zk_T := List.mem_of_getElem? (i := 398) rfl
set_option maxRecDepth 20000 in
theorem tw_399 : Cond.lays R_Y R_Y "read" "I" ∈ zk_T := List.mem_of_getElem? (i := 399) rfl
set_option maxRecDepth 20000 in
theorem tw_400 : Cond.lays R_Y R_Y "at" "I" ∈ zk_T := List.mem_of_getElem? (i := 400) rfl
set_option maxRecDepth 20000 in
theorem tw_401 : Cond.laysFinal R_Y R_Y "steps" "[J" ∈ zk_T := List.mem_of_getElem? (i := 401) rfl
set_option maxRecDepth 20000 in
theorem tw_402 : Cond.laysFinal R_Y R_Y "kinds" "[I" ∈ zk_T := List.mem_of_getElem? (i := 402) rfl
set_option maxRecDepth 20000 in
theorem tw_403 : Cond.laysFinal R_Y R_Y "values" "[I" ∈ zk_T := List.mem_of_getElem? (i := 403) rfl
set_option maxRecDepth 20000 in
theorem tw_404 : Cond.arrayClass Jvm.ClassFile.FieldType.long ∈ zk_T := List.mem_of_getElem? (i := 404) rfl
set_option maxRecDepth 20000 in
theorem tw_405 : Cond.methodLink R_L 25 y_Y_add ∈ zk_T := List.mem_of_getElem? (i := 405) rfl
set_option maxRecDepth 20000 in
theorem tw_406 : Cond.instanceMethod y_Y_add ∈ zk_T := List.mem_of_getElem? (i := 406) rfl
set_option maxRecDepth 20000 in
theorem tw_407 : Cond.selects R_Y y_Y_add y_Y_add ∈ zk_T := List.mem_of_getElem? (i := 407) rfl
set_option maxRecDepth 20000 in
theorem tw_408 : Cond.code y_Y_add b_Y_add 5 (Option.some Jvm.ClassFile.FieldType.int) ∈ zk_T := List.mem_of_getElem? (i := 408) rfl
set_option maxRecDepth 20000 in
theorem tw_409 : Cond.methodLink R_Y 45 y_Y_in ∈ zk_T := List.mem_of_getElem? (i := 409) rfl
set_option maxRecDepth 20000 in
theorem tw_410 : Cond.static y_Y_in ∈ zk_T := List.mem_of_getElem? (i := 410) rfl
set_option maxRecDepth 20000 in
theorem tw_411 : Cond.code y_Y_in b_Y_in 3 (Option.some Jvm.ClassFile.FieldType.boolean) ∈ zk_T := List.mem_of_getElem? (i := 411) rfl
set_option maxRecDepth 20000 in
theorem tw_412 : Cond.methodLink R_L 30 y_Y_clear ∈ zk_T := List.mem_of_getElem? (i := 412) rfl
set_option maxRecDepth 20000 in
theorem tw_413 : Cond.instanceMethod y_Y_clear ∈ zk_T := List.mem_of_getElem? (i := 413) rfl
set_option maxRecDepth 20000 in
theorem tw_414 : Cond.selects R_Y y_Y_clear y_Y_clear ∈ zk_T := List.mem_of_getElem? (i := 414) rfl
set_option maxRecDepth 20000 in
theorem tw_415 : Cond.code y_Y_clear b_Y_clear 2 (Option.some Jvm.ClassFile.FieldType.int) ∈ zk_T := List.mem_of_getElem? (i := 415) rfl
set_option maxRecDepth 20000 in
theorem tw_416 : Cond.methodLink R_Y 56 y_Y_anew ∈ zk_T := List.mem_of_getElem? (i := 416) rfl
set_option maxRecDepth 20000 in
theorem tw_417 : Cond.instanceMethod y_Y_anew ∈ zk_T := List.mem_of_getElem? (i := 417) rfl
set_option maxRecDepth 20000 in
theorem tw_418 : Cond.code y_Y_anew b_Y_anew 3 none ∈ zk_T := List.mem_of_getElem? (i := 418) rfl
set_option maxRecDepth 20000 in
theorem tw_419 : Cond.methodLink R_L 35 y_Y_input ∈ zk_T := List.mem_of_getElem? (i := 419) rfl
set_option maxRecDepth 20000 in
theorem tw_420 : Cond.instanceMethod y_Y_input ∈ zk_T := List.mem_of_getElem? (i := 420) rfl
set_option maxRecDepth 20000 in
theorem tw_421 : Cond.selects R_Y y_Y_input y_Y_input ∈ zk_T := List.mem_of_getElem? (i := 421) rfl
set_option maxRecDepth 20000 in
theorem tw_422 : Cond.code y_Y_input b_Y_input 2 (Option.some Jvm.ClassFile.FieldType.int) ∈ zk_T := List.mem_of_getElem? (i := 422) rfl
set_option maxRecDepth 20000 in
theorem tw_423 : Cond.methodLink R_L 40 y_Y_request ∈ zk_T := List.mem_of_getElem? (i := 423) rfl
set_option maxRecDepth 20000 in
theorem tw_424 : Cond.instanceMethod y_Y_request ∈ zk_T := List.mem_of_getElem? (i := 424) rfl
set_option maxRecDepth 20000 in
theorem tw_425 : Cond.selects R_Y y_Y_request y_Y_request ∈ zk_T := List.mem_of_getElem? (i := 425) rfl
set_option maxRecDepth 20000 in
theorem tw_426 : Cond.code y_Y_request b_Y_request 2 (Option.some Jvm.ClassFile.FieldType.boolean) ∈ zk_T := List.mem_of_getElem? (i := 426) rfl
set_option maxRecDepth 20000 in
theorem tw_427 : Cond.methodLink R_L 45 y_Y_pass ∈ zk_T := List.mem_of_getElem? (i := 427) rfl
set_option maxRecDepth 20000 in
theorem tw_428 : Cond.instanceMethod y_Y_pass ∈ zk_T := List.mem_of_getElem? (i := 428) rfl
set_option maxRecDepth 20000 in
theorem tw_429 : Cond.selects R_Y y_Y_pass y_Y_pass ∈ zk_T := List.mem_of_getElem? (i := 429) rfl
set_option maxRecDepth 20000 in
theorem tw_430 : Cond.code y_Y_pass b_Y_pass 2 (Option.some Jvm.ClassFile.FieldType.boolean) ∈ zk_T := List.mem_of_getElem? (i := 430) rfl
set_option maxRecDepth 20000 in
theorem tw_431 : Cond.constant R_Y 78 1000000 ∈ zk_T := List.mem_of_getElem? (i := 431) rfl
set_option maxRecDepth 20000 in
theorem tw_432 : Cond.methodLink R_L 49 y_Y_run ∈ zk_T := List.mem_of_getElem? (i := 432) rfl
set_option maxRecDepth 20000 in
theorem tw_433 : Cond.instanceMethod y_Y_run ∈ zk_T := List.mem_of_getElem? (i := 433) rfl
set_option maxRecDepth 20000 in
theorem tw_434 : Cond.selects R_Y y_Y_run y_Y_run ∈ zk_T := List.mem_of_getElem? (i := 434) rfl
set_option maxRecDepth 20000 in
theorem tw_435 : Cond.code y_Y_run b_Y_run 3 (Option.some Jvm.ClassFile.FieldType.int) ∈ zk_T := List.mem_of_getElem? (i := 435) rfl
set_option maxRecDepth 20000 in
theorem tw_436 : Cond.methodLink R_Y 131 y_Y_step ∈ zk_T := List.mem_of_getElem? (i := 436) rfl
set_option maxRecDepth 20000 in
theorem tw_437 : Cond.instanceMethod y_Y_step ∈ zk_T := List.mem_of_getElem? (i := 437) rfl
set_option maxRecDepth 20000 in
theorem tw_438 : Cond.code y_Y_step b_Y_step 4 none ∈ zk_T := List.mem_of_getElem? (i := 438) rfl
set_option maxRecDepth 20000 in
theorem tw_439 : Cond.methodLink R_Y 119 y_Y_interrupts ∈ zk_T := List.mem_of_getElem? (i := 439) rfl
set_option maxRecDepth 20000 in
theorem tw_440 : Cond.instanceMethod y_Y_interrupts ∈ zk_T := List.mem_of_getElem? (i := 440) rfl
set_option maxRecDepth 20000 in
theorem tw_441 : Cond.code y_Y_interrupts b_Y_interrupts 3 (Option.some Jvm.ClassFile.FieldType.boolean) ∈ zk_T := List.mem_of_getElem? (i := 441) rfl
set_option maxRecDepth 20000 in
theorem tw_442 : Cond.methodLink R_Y 98 y_Y_found ∈ zk_T := List.mem_of_getElem? (i := 442) rfl
set_option maxRecDepth 20000 in
theorem tw_443 : Cond.instanceMethod y_Y_found ∈ zk_T := List.mem_of_getElem? (i := 443) rfl
set_option maxRecDepth 20000 in
theorem tw_444 : Cond.code y_Y_found b_Y_found 5 (Option.some Jvm.ClassFile.FieldType.int) ∈ zk_T := List.mem_of_getElem? (i := 444) rfl
set_option maxRecDepth 20000 in
theorem tw_445 : Cond.methodLink R_Y 101 y_Y_writeEntry ∈ zk_T := List.mem_of_getElem? (i := 445) rfl
set_option maxRecDepth 20000 in
theorem tw_446 : Cond.instanceMethod y_Y_writeEntry ∈ zk_T := List.mem_of_getElem? (i := 446) rfl
set_option maxRecDepth 20000 in
theorem tw_447 : Cond.code y_Y_writeEntry b_Y_writeEntry 3 none ∈ zk_T := List.mem_of_getElem? (i := 447) rfl
set_option maxRecDepth 20000 in
theorem tw_448 : Cond.constantLong R_Y 89 4 ∈ zk_T := List.mem_of_getElem? (i := 448) rfl
set_option maxRecDepth 20000 in
theorem tw_449 : Cond.methodLink R_Y 91 y_Y_writeNumber ∈ zk_T := List.mem_of_getElem? (i := 449) rfl
set_option maxRecDepth 20000 in
theorem tw_450 : Cond.instanceMethod y_Y_writeNumber ∈ zk_T := List.mem_of_getElem? (i := 450) rfl
set_option maxRecDepth 20000 in
theorem tw_451 : Cond.code y_Y_writeNumber b_Y_writeNumber 5 none ∈ zk_T := List.mem_of_getElem? (i := 451) rfl
set_option maxRecDepth 20000 in
theorem tw_452 : Cond.constantLong R_Y 84 128 ∈ zk_T := List.mem_of_getElem? (i := 452) rfl
set_option maxRecDepth 20000 in
theorem tw_453 : Cond.methodLink R_Y 86 y_Y_writeByte ∈ zk_T := List.mem_of_getElem? (i := 453) rfl
set_option maxRecDepth 20000 in
theorem tw_454 : Cond.instanceMethod y_Y_writeByte ∈ zk_T := List.mem_of_getElem? (i := 454) rfl
set_option maxRecDepth 20000 in
theorem tw_455 : Cond.code y_Y_writeByte b_Y_writeByte 2 none ∈ zk_T := List.mem_of_getElem? (i := 455) rfl
set_option maxRecDepth 20000 in
theorem tw_456 : Cond.methodLink R_Y 80 y_Y_mix ∈ zk_T := List.mem_of_getElem? (i := 456) rfl
set_option maxRecDepth 20000 in
theorem tw_457 : Cond.static y_Y_mix ∈ zk_T := List.mem_of_getElem? (i := 457) rfl
set_option maxRecDepth 20000 in
theorem tw_458 : Cond.code y_Y_mix b_Y_mix 3 (Option.some Jvm.ClassFile.FieldType.int) ∈ zk_T := List.mem_of_getElem? (i := 458) rfl
set_option maxRecDepth 20000 in
theorem tw_459 : Cond.constant R_Y 79 16777619 ∈ zk_T := List.mem_of_getElem? (i := 459) rfl
set_option maxRecDepth 20000 in
theorem tw_460 : Cond.methodLink R_Y 123 y_Y_perform ∈ zk_T := List.mem_of_getElem? (i := 460) rfl
set_option maxRecDepth 20000 in
theorem tw_461 : Cond.instanceMethod y_Y_perform ∈ zk_T := List.mem_of_getElem? (i := 461) rfl
set_option maxRecDepth 20000 in
theorem tw_462 : Cond.code y_Y_perform b_Y_perform 8 none ∈ zk_T := List.mem_of_getElem? (i := 462) rfl
set_option maxRecDepth 20000 in
theorem tw_463 : Cond.methodLink R_Y 108 y_Y_mod ∈ zk_T := List.mem_of_getElem? (i := 463) rfl
set_option maxRecDepth 20000 in
theorem tw_464 : Cond.static y_Y_mod ∈ zk_T := List.mem_of_getElem? (i := 464) rfl
set_option maxRecDepth 20000 in
theorem tw_465 : Cond.code y_Y_mod b_Y_mod 3 (Option.some Jvm.ClassFile.FieldType.int) ∈ zk_T := List.mem_of_getElem? (i := 465) rfl
set_option maxRecDepth 20000 in
theorem tw_466 : Cond.methodLink R_Y 111 y_Y_inputFor ∈ zk_T := List.mem_of_getElem? (i := 466) rfl
set_option maxRecDepth 20000 in
theorem tw_467 : Cond.instanceMethod y_Y_inputFor ∈ zk_T := List.mem_of_getElem? (i := 467) rfl
set_option maxRecDepth 20000 in
theorem tw_468 : Cond.code y_Y_inputFor b_Y_inputFor 4 (Option.some Jvm.ClassFile.FieldType.int) ∈ zk_T := List.mem_of_getElem? (i := 468) rfl
set_option maxRecDepth 20000 in
theorem tw_469 : Cond.constantLong R_Y 104 2 ∈ zk_T := List.mem_of_getElem? (i := 469) rfl
set_option maxRecDepth 20000 in
theorem tw_470 : Cond.constantLong R_Y 106 (-2) ∈ zk_T := List.mem_of_getElem? (i := 470) rfl
set_option maxRecDepth 20000 in
theorem tw_471 : Cond.methodLink R_Y 115 y_Y_timeFor ∈ zk_T := List.mem_of_getElem? (i := 471) rfl
set_option maxRecDepth 20000 in
theorem tw_472 : Cond.instanceMethod y_Y_timeFor ∈ zk_T := List.mem_of_getElem? (i := 472) rfl
set_option maxRecDepth 20000 in
theorem tw_473 : Cond.code y_Y_timeFor b_Y_timeFor 4 (Option.some Jvm.ClassFile.FieldType.int) ∈ zk_T := List.mem_of_getElem? (i := 473) rfl
set_option maxRecDepth 20000 in
theorem tw_474 : Cond.constant R_Y 118 1103515245 ∈ zk_T := List.mem_of_getElem? (i := 474) rfl
set_option maxRecDepth 20000 in
theorem tw_475 : Cond.methodLink R_Y 127 y_Y_trace ∈ zk_T := List.mem_of_getElem? (i := 475) rfl
set_option maxRecDepth 20000 in
theorem tw_476 : Cond.instanceMethod y_Y_trace ∈ zk_T := List.mem_of_getElem? (i := 476) rfl
set_option maxRecDepth 20000 in
theorem tw_477 : Cond.code y_Y_trace b_Y_trace 3 none ∈ zk_T := List.mem_of_getElem? (i := 477) rfl
set_option maxRecDepth 20000 in
theorem tw_478 : Cond.methodLink R_L 75 y_Y_tell ∈ zk_T := List.mem_of_getElem? (i := 478) rfl
set_option maxRecDepth 20000 in
theorem tw_479 : Cond.instanceMethod y_Y_tell ∈ zk_T := List.mem_of_getElem? (i := 479) rfl
set_option maxRecDepth 20000 in
theorem tw_480 : Cond.selects R_Y y_Y_tell y_Y_tell ∈ zk_T := List.mem_of_getElem? (i := 480) rfl
set_option maxRecDepth 20000 in
theorem tw_481 : Cond.code y_Y_tell b_Y_tell 6 (Option.some Jvm.ClassFile.FieldType.int) ∈ zk_T := List.mem_of_getElem? (i := 481) rfl
set_option maxRecDepth 20000 in
theorem tw_482 : Cond.methodLink R_Y 147 y_Y_sealNow ∈ zk_T := List.mem_of_getElem? (i := 482) rfl
set_option maxRecDepth 20000 in
theorem tw_483 : Cond.instanceMethod y_Y_sealNow ∈ zk_T := List.mem_of_getElem? (i := 483) rfl
set_option maxRecDepth 20000 in
theorem tw_484 : Cond.code y_Y_sealNow b_Y_sealNow 3 (Option.some Jvm.ClassFile.FieldType.int) ∈ zk_T := List.mem_of_getElem? (i := 484) rfl
set_option maxRecDepth 20000 in
theorem tw_485 : Cond.methodLink R_Y 151 y_Y_readAll ∈ zk_T := List.mem_of_getElem? (i := 485) rfl
set_option maxRecDepth 20000 in
theorem tw_486 : Cond.instanceMethod y_Y_readAll ∈ zk_T := List.mem_of_getElem? (i := 486) rfl
set_option maxRecDepth 20000 in
theorem tw_487 : Cond.code y_Y_readAll b_Y_readAll 8 (Option.some Jvm.ClassFile.FieldType.boolean) ∈ zk_T := List.mem_of_getElem? (i := 487) rfl
set_option maxRecDepth 20000 in
theorem tw_488 : Cond.methodLink R_Y 141 y_Y_readNumber ∈ zk_T := List.mem_of_getElem? (i := 488) rfl
set_option maxRecDepth 20000 in
theorem tw_489 : Cond.instanceMethod y_Y_readNumber ∈ zk_T := List.mem_of_getElem? (i := 489) rfl
set_option maxRecDepth 20000 in
theorem tw_490 : Cond.code y_Y_readNumber b_Y_readNumber 5 (Option.some Jvm.ClassFile.FieldType.long) ∈ zk_T := List.mem_of_getElem? (i := 490) rfl
set_option maxRecDepth 20000 in
theorem tw_491 : Cond.constantLong R_Y 137 (-1) ∈ zk_T := List.mem_of_getElem? (i := 491) rfl
set_option maxRecDepth 20000 in
theorem tw_492 : Cond.constantLong R_Y 139 4294967295 ∈ zk_T := List.mem_of_getElem? (i := 492) rfl
set_option maxRecDepth 20000 in
theorem tw_493 : Cond.constantLong R_Y 145 3 ∈ zk_T := List.mem_of_getElem? (i := 493) rfl
set_option maxRecDepth 20000 in
theorem tw_494 : Cond.methodLink R_L 53 y_Y_log ∈ zk_T := List.mem_of_getElem? (i := 494) rfl
set_option maxRecDepth 20000 in
theorem tw_495 : Cond.instanceMethod y_Y_log ∈ zk_T := List.mem_of_getElem? (i := 495) rfl
set_option maxRecDepth 20000 in
theorem tw_496 : Cond.selects R_Y y_Y_log y_Y_log ∈ zk_T := List.mem_of_getElem? (i := 496) rfl
set_option maxRecDepth 20000 in
theorem tw_497 : Cond.code y_Y_log b_Y_log 1 (Option.some Jvm.ClassFile.FieldType.int) ∈ zk_T := List.mem_of_getElem? (i := 497) rfl
set_option maxRecDepth 20000 in
theorem tw_498 : Cond.methodLink R_L 57 y_Y_at ∈ zk_T := List.mem_of_getElem? (i := 498) rfl
set_option maxRecDepth 20000 in
theorem tw_499 : Cond.instanceMethod y_Y_at ∈ zk_T := List.mem_of_getElem? (i := 499) rfl
set_option maxRecDepth 20000 in
theorem tw_500 : Cond.selects R_Y y_Y_at y_Y_at ∈ zk_T := List.mem_of_getElem? (i := 500) rfl
set_option maxRecDepth 20000 in
theorem tw_501 : Cond.code y_Y_at b_Y_at 2 (Option.some Jvm.ClassFile.FieldType.int) ∈ zk_T := List.mem_of_getElem? (i := 501) rfl
set_option maxRecDepth 20000 in
theorem tw_502 : Cond.methodLink R_L 61 y_Y_entries ∈ zk_T := List.mem_of_getElem? (i := 502) rfl
set_option maxRecDepth 20000 in
theorem tw_503 : Cond.instanceMethod y_Y_entries ∈ zk_T := List.mem_of_getElem? (i := 503) rfl
set_option maxRecDepth 20000 in
theorem tw_504 : Cond.selects R_Y y_Y_entries y_Y_entries ∈ zk_T := List.mem_of_getElem? (i := 504) rfl
set_option maxRecDepth 20000 in
theorem tw_505 : Cond.code y_Y_entries b_Y_entries 1 (Option.some Jvm.ClassFile.FieldType.int) ∈ zk_T := List.mem_of_getElem? (i := 505) rfl
set_option maxRecDepth 20000 in
theorem tw_506 : Cond.methodLink R_L 65 y_Y_seal ∈ zk_T := List.mem_of_getElem? (i := 506) rfl
set_option maxRecDepth 20000 in
theorem tw_507 : Cond.instanceMethod y_Y_seal ∈ zk_T := List.mem_of_getElem? (i := 507) rfl
set_option maxRecDepth 20000 in
theorem tw_508 : Cond.selects R_Y y_Y_seal y_Y_seal ∈ zk_T := List.mem_of_getElem? (i := 508) rfl
set_option maxRecDepth 20000 in
theorem tw_509 : Cond.code y_Y_seal b_Y_seal 1 (Option.some Jvm.ClassFile.FieldType.int) ∈ zk_T := List.mem_of_getElem? (i := 509) rfl
set_option maxRecDepth 20000 in
theorem tw_510 : Cond.methodLink R_L 70 y_Y_change ∈ zk_T := List.mem_of_getElem? (i := 510) rfl
set_option maxRecDepth 20000 in
theorem tw_511 : Cond.instanceMethod y_Y_change ∈ zk_T := List.mem_of_getElem? (i := 511) rfl
set_option maxRecDepth 20000 in
theorem tw_512 : Cond.selects R_Y y_Y_change y_Y_change ∈ zk_T := List.mem_of_getElem? (i := 512) rfl
set_option maxRecDepth 20000 in
theorem tw_513 : Cond.code y_Y_change b_Y_change 3 (Option.some Jvm.ClassFile.FieldType.boolean) ∈ zk_T := List.mem_of_getElem? (i := 513) rfl
set_option maxRecDepth 20000 in
theorem tw_514 : Cond.methodLink R_L 79 y_Y_state ∈ zk_T := List.mem_of_getElem? (i := 514) rfl
set_option maxRecDepth 20000 in
theorem tw_515 : Cond.instanceMethod y_Y_state ∈ zk_T := List.mem_of_getElem? (i := 515) rfl
set_option maxRecDepth 20000 in
theorem tw_516 : Cond.selects R_Y y_Y_state y_Y_state ∈ zk_T := List.mem_of_getElem? (i := 516) rfl
set_option maxRecDepth 20000 in
theorem tw_517 : Cond.code y_Y_state b_Y_state 3 (Option.some Jvm.ClassFile.FieldType.int) ∈ zk_T := List.mem_of_getElem? (i := 517) rfl
set_option maxRecDepth 20000 in
theorem tw_518 : Cond.methodLink R_L 82 y_Y_cell ∈ zk_T := List.mem_of_getElem? (i := 518) rfl
set_option maxRecDepth 20000 in
theorem tw_519 : Cond.instanceMethod y_Y_cell ∈ zk_T := List.mem_of_getElem? (i := 519) rfl
set_option maxRecDepth 20000 in
theorem tw_520 : Cond.selects R_Y y_Y_cell y_Y_cell ∈ zk_T := List.mem_of_getElem? (i := 520) rfl
set_option maxRecDepth 20000 in
theorem tw_521 : Cond.code y_Y_cell b_Y_cell 3 (Option.some Jvm.ClassFile.FieldType.int) ∈ zk_T := List.mem_of_getElem? (i := 521) rfl
set_option maxRecDepth 20000 in
theorem tw_522 : Cond.methodLink R_L 86 y_Y_sealed ∈ zk_T := List.mem_of_getElem? (i := 522) rfl
set_option maxRecDepth 20000 in
theorem tw_523 : Cond.instanceMethod y_Y_sealed ∈ zk_T := List.mem_of_getElem? (i := 523) rfl
set_option maxRecDepth 20000 in
theorem tw_524 : Cond.selects R_Y y_Y_sealed y_Y_sealed ∈ zk_T := List.mem_of_getElem? (i := 524) rfl
set_option maxRecDepth 20000 in
theorem tw_525 : Cond.code y_Y_sealed b_Y_sealed 6 (Option.some Jvm.ClassFile.FieldType.int) ∈ zk_T := List.mem_of_getElem? (i := 525) rfl
set_option maxRecDepth 20000 in
theorem tw_526 : Cond.selects R_T y_T_hasEntry y_T_hasEntry ∈ zk_T := List.mem_of_getElem? (i := 526) rfl
set_option maxRecDepth 20000 in
theorem tw_527 : Cond.selects R_D y_D_readNumber y_D_readNumber ∈ zk_T := List.mem_of_getElem? (i := 527) rfl
set_option maxRecDepth 20000 in
theorem tw_528 : Cond.selects R_M y_M_perform y_M_perform ∈ zk_T := List.mem_of_getElem? (i := 528) rfl
set_option maxRecDepth 20000 in
theorem tw_529 : Cond.selects R_M y_M_turn y_M_turn ∈ zk_T := List.mem_of_getElem? (i := 529) rfl
set_option maxRecDepth 20000 in
theorem tw_530 : Cond.selects R_M y_M_followTrace y_M_followTrace ∈ zk_T := List.mem_of_getElem? (i := 530) rfl
set_option maxRecDepth 20000 in
theorem tw_531 : Cond.selects R_X y_X_machineOf y_X_machineOf ∈ zk_T := List.mem_of_getElem? (i := 531) rfl
set_option maxRecDepth 20000 in
theorem tw_532 : Cond.selects R_Y y_Y_anew y_Y_anew ∈ zk_T := List.mem_of_getElem? (i := 532) rfl
set_option maxRecDepth 20000 in
theorem tw_533 : Cond.selects R_Y y_Y_step y_Y_step ∈ zk_T := List.mem_of_getElem? (i := 533) rfl
set_option maxRecDepth 20000 in
theorem tw_534 : Cond.selects R_Y y_Y_interrupts y_Y_interrupts ∈ zk_T := List.mem_of_getElem? (i := 534) rfl
set_option maxRecDepth 20000 in
theorem tw_535 : Cond.selects R_Y y_Y_found y_Y_found ∈ zk_T := List.mem_of_getElem? (i := 535) rfl
set_option maxRecDepth 20000 in
theorem tw_536 : Cond.selects R_Y y_Y_writeEntry y_Y_writeEntry ∈ zk_T := List.mem_of_getElem? (i := 536) rfl
set_option maxRecDepth 20000 in
theorem tw_537 : Cond.selects R_Y y_Y_writeNumber y_Y_writeNumber ∈ zk_T := List.mem_of_getElem? (i := 537) rfl
set_option maxRecDepth 20000 in
theorem tw_538 : Cond.selects R_Y y_Y_writeByte y_Y_writeByte ∈ zk_T := List.mem_of_getElem? (i := 538) rfl
set_option maxRecDepth 20000 in
theorem tw_539 : Cond.selects R_Y y_Y_perform y_Y_perform ∈ zk_T := List.mem_of_getElem? (i := 539) rfl
set_option maxRecDepth 20000 in
theorem tw_540 : Cond.selects R_Y y_Y_inputFor y_Y_inputFor ∈ zk_T := List.mem_of_getElem? (i := 540) rfl
set_option maxRecDepth 20000 in
theorem tw_541 : Cond.selects R_Y y_Y_timeFor y_Y_timeFor ∈ zk_T := List.mem_of_getElem? (i := 541) rfl
set_option maxRecDepth 20000 in
theorem tw_542 : Cond.selects R_Y y_Y_trace y_Y_trace ∈ zk_T := List.mem_of_getElem? (i := 542) rfl
set_option maxRecDepth 20000 in
theorem tw_543 : Cond.selects R_Y y_Y_sealNow y_Y_sealNow ∈ zk_T := List.mem_of_getElem? (i := 543) rfl
set_option maxRecDepth 20000 in
theorem tw_544 : Cond.selects R_Y y_Y_readAll y_Y_readAll ∈ zk_T := List.mem_of_getElem? (i := 544) rfl
set_option maxRecDepth 20000 in
theorem tw_545 : Cond.selects R_Y y_Y_readNumber y_Y_readNumber ∈ zk_T := List.mem_of_getElem? (i := 545) rfl
set_option maxRecDepth 100000 in
theorem zk_ok : ∀ w ∈ zk_T, (w.onTables && w.keeps) = true ∨ ∃ ty, w = .arrayClass ty := fun w h => good_of_word (List.all_eq_true.mp (by decide +kernel : zk_T.all goodWord = true) w h)
theorem zk_m {w c0 : Cond} (h : w ∈ zk_T) : w ∈ c0 :: zk_T := List.mem_cons_of_mem _ h
theorem in_P {c0 : Cond} : ∀ w ∈ u_ws R_P F_P 4, w ∈ c0 :: zk_T := by
  show ∀ w ∈ [u_lay R_P F_P 0, u_lay R_P F_P 1, u_lay R_P F_P 2, u_lay R_P F_P 3], w ∈ c0 :: zk_T
  exact List.forall_mem_cons.mpr ⟨zk_m tw_33, List.forall_mem_cons.mpr ⟨zk_m tw_34, List.forall_mem_cons.mpr ⟨zk_m tw_35, List.forall_mem_cons.mpr ⟨zk_m tw_36, fun _ h => absurd h List.not_mem_nil⟩⟩⟩⟩
theorem in_J {c0 : Cond} : ∀ w ∈ u_ws R_J F_J 5, w ∈ c0 :: zk_T := by
  show ∀ w ∈ [u_lay R_J F_J 0, u_lay R_J F_J 1, u_lay R_J F_J 2, u_lay R_J F_J 3, u_lay R_J F_J 4], w ∈ c0 :: zk_T
  exact List.forall_mem_cons.mpr ⟨zk_m tw_53, List.forall_mem_cons.mpr ⟨zk_m tw_54, List.forall_mem_cons.mpr ⟨zk_m tw_55, List.forall_mem_cons.mpr ⟨zk_m tw_56, List.forall_mem_cons.mpr ⟨zk_m tw_57, fun _ h => absurd h List.not_mem_nil⟩⟩⟩⟩⟩
theorem in_R {c0 : Cond} : ∀ w ∈ u_ws R_R F_R 6, w ∈ c0 :: zk_T := by
  show ∀ w ∈ [u_lay R_R F_R 0, u_lay R_R F_R 1, u_lay R_R F_R 2, u_lay R_R F_R 3, u_lay R_R F_R 4, u_lay R_R F_R 5], w ∈ c0 :: zk_T
  exact List.forall_mem_cons.mpr ⟨zk_m tw_74, List.forall_mem_cons.mpr ⟨zk_m tw_75, List.forall_mem_cons.mpr ⟨zk_m tw_76, List.forall_mem_cons.mpr ⟨zk_m tw_77, List.forall_mem_cons.mpr ⟨zk_m tw_78, List.forall_mem_cons.mpr ⟨zk_m tw_79, fun _ h => absurd h List.not_mem_nil⟩⟩⟩⟩⟩⟩
theorem in_T {c0 : Cond} : ∀ w ∈ u_ws R_T F_T 2, w ∈ c0 :: zk_T := by
  show ∀ w ∈ [u_lay R_T F_T 0, u_lay R_T F_T 1], w ∈ c0 :: zk_T
  exact List.forall_mem_cons.mpr ⟨zk_m tw_112, List.forall_mem_cons.mpr ⟨zk_m tw_113, fun _ h => absurd h List.not_mem_nil⟩⟩
theorem in_D {c0 : Cond} : ∀ w ∈ u_ws R_D F_D 7, w ∈ c0 :: zk_T := by
  show ∀ w ∈ [u_lay R_D F_D 0, u_lay R_D F_D 1, u_lay R_D F_D 2, u_lay R_D F_D 3, u_lay R_D F_D 4, u_lay R_D F_D 5, u_lay R_D F_D 6], w ∈ c0 :: zk_T
  exact List.forall_mem_cons.mpr ⟨zk_m tw_100, List.forall_mem_cons.mpr ⟨zk_m tw_101, List.forall_mem_cons.mpr ⟨zk_m tw_102, List.forall_mem_cons.mpr ⟨zk_m tw_103, List.forall_mem_cons.mpr ⟨zk_m tw_104, List.forall_mem_cons.mpr ⟨zk_m tw_105, List.forall_mem_cons.mpr ⟨zk_m tw_106, fun _ h => absurd h List.not_mem_nil⟩⟩⟩⟩⟩⟩⟩
theorem in_M {c0 : Cond} : ∀ w ∈ u_ws R_M F_M 10, w ∈ c0 :: zk_T := by
  show ∀ w ∈ [u_lay R_M F_M 0, u_lay R_M F_M 1, u_lay R_M F_M 2, u_lay R_M F_M 3, u_lay R_M F_M 4, u_lay R_M F_M 5, u_lay R_M F_M 6, u_lay R_M F_M 7, u_lay R_M F_M 8, u_lay R_M F_M 9], w ∈ c0 :: zk_T
  exact List.forall_mem_cons.mpr ⟨zk_m tw_131, List.forall_mem_cons.mpr ⟨zk_m tw_132, List.forall_mem_cons.mpr ⟨zk_m tw_133, List.forall_mem_cons.mpr ⟨zk_m tw_134, List.forall_mem_cons.mpr ⟨zk_m tw_135, List.forall_mem_cons.mpr ⟨zk_m tw_136, List.forall_mem_cons.mpr ⟨zk_m tw_137, List.forall_mem_cons.mpr ⟨zk_m tw_138, List.forall_mem_cons.mpr ⟨zk_m tw_139, List.forall_mem_cons.mpr ⟨zk_m tw_140, fun _ h => absurd h List.not_mem_nil⟩⟩⟩⟩⟩⟩⟩⟩⟩⟩
theorem in_X {c0 : Cond} : ∀ w ∈ u_ws R_X F_X 8, w ∈ c0 :: zk_T := by
  show ∀ w ∈ [u_lay R_X F_X 0, u_lay R_X F_X 1, u_lay R_X F_X 2, u_lay R_X F_X 3, u_lay R_X F_X 4, u_lay R_X F_X 5, u_lay R_X F_X 6, u_lay R_X F_X 7], w ∈ c0 :: zk_T
  exact List.forall_mem_cons.mpr ⟨zk_m tw_149, List.forall_mem_cons.mpr ⟨zk_m tw_150, List.forall_mem_cons.mpr ⟨zk_m tw_151, List.forall_mem_cons.mpr ⟨zk_m tw_152, List.forall_mem_cons.mpr ⟨zk_m tw_153, List.forall_mem_cons.mpr ⟨zk_m tw_154, List.forall_mem_cons.mpr ⟨zk_m tw_155, List.forall_mem_cons.mpr ⟨zk_m tw_156, fun _ h => absurd h List.not_mem_nil⟩⟩⟩⟩⟩⟩⟩⟩
theorem in_Y {c0 : Cond} : ∀ w ∈ u_ws R_Y F_Y 21, w ∈ c0 :: zk_T := by
  show ∀ w ∈ [u_lay R_Y F_Y 0, u_lay R_Y F_Y 1, u_lay R_Y F_Y 2, u_lay R_Y F_Y 3, u_lay R_Y F_Y 4, u_lay R_Y F_Y 5, u_lay R_Y F_Y 6, u_lay R_Y F_Y 7, u_lay R_Y F_Y 8, u_lay R_Y F_Y 9, u_lay R_Y F_Y 10, u_lay R_Y F_Y 11, u_lay R_Y F_Y 12, u_lay R_Y F_Y 13, u_lay R_Y F_Y 14, u_lay R_Y F_Y 15, u_lay R_Y F_Y 16, u_lay R_Y F_Y 17, u_lay R_Y F_Y 18, u_lay R_Y F_Y 19, u_lay R_Y F_Y 20], w ∈ c0 :: zk_T
  exact List.forall_mem_cons.mpr ⟨zk_m tw_383, List.forall_mem_cons.mpr ⟨zk_m tw_384, List.forall_mem_cons.mpr ⟨zk_m tw_385, List.forall_mem_cons.mpr ⟨zk_m tw_386, List.forall_mem_cons.mpr ⟨zk_m tw_387, List.forall_mem_cons.mpr ⟨zk_m tw_388, List.forall_mem_cons.mpr ⟨zk_m tw_389, List.forall_mem_cons.mpr ⟨zk_m tw_390, List.forall_mem_cons.mpr ⟨zk_m tw_391, List.forall_mem_cons.mpr ⟨zk_m tw_392, List.forall_mem_cons.mpr ⟨zk_m tw_393, List.forall_mem_cons.mpr ⟨zk_m tw_394, List.forall_mem_cons.mpr ⟨zk_m tw_395, List.forall_mem_cons.mpr ⟨zk_m tw_396, List.forall_mem_cons.mpr ⟨zk_m tw_397, List.forall_mem_cons.mpr ⟨zk_m tw_398, List.forall_mem_cons.mpr ⟨zk_m tw_399, List.forall_mem_cons.mpr ⟨zk_m tw_400, List.forall_mem_cons.mpr ⟨zk_m tw_401, List.forall_mem_cons.mpr ⟨zk_m tw_402, List.forall_mem_cons.mpr ⟨zk_m tw_403, fun _ h => absurd h List.not_mem_nil⟩⟩⟩⟩⟩⟩⟩⟩⟩⟩⟩⟩⟩⟩⟩⟩⟩⟩⟩⟩⟩
def w_X_init : List Cond := Cond.code y_X_init b_X_init 2 none :: zk_T
def w_P_init : List Cond := Cond.code y_P_init b_P_init 1 none :: zk_T
def w_J_init : List Cond := Cond.code y_J_init b_J_init 1 none :: zk_T
def w_R_init : List Cond := Cond.code y_R_init b_R_init 2 none :: zk_T
def w_O_init : List Cond := Cond.code y_O_init b_O_init 1 none :: zk_T
def w_D_init : List Cond := Cond.code y_D_init b_D_init 2 none :: zk_T
def w_T_init : List Cond := Cond.code y_T_init b_T_init 2 none :: zk_T
def w_M_init : List Cond := Cond.code y_M_init b_M_init 2 none :: zk_T
def w_X_add : List Cond := Cond.code y_X_add b_X_add 4 (Option.some Jvm.ClassFile.FieldType.int) :: zk_T
def w_X_isInstruction : List Cond := Cond.code y_X_isInstruction b_X_isInstruction 3 (Option.some Jvm.ClassFile.FieldType.boolean) :: zk_T
def w_P_append : List Cond := Cond.code y_P_append b_P_append 4 (Option.some Jvm.ClassFile.FieldType.int) :: zk_T
def w_X_clear : List Cond := Cond.code y_X_clear b_X_clear 2 (Option.some Jvm.ClassFile.FieldType.int) :: zk_T
def w_M_restart : List Cond := Cond.code y_M_restart b_M_restart 2 none :: zk_T
def w_A_fill : List Cond := Cond.code y_A_fill b_A_fill 4 none :: zk_T
def w_J_restart : List Cond := Cond.code y_J_restart b_J_restart 1 none :: zk_T
def w_R_restart : List Cond := Cond.code y_R_restart b_R_restart 1 none :: zk_T
def w_X_input : List Cond := Cond.code y_X_input b_X_input 2 (Option.some Jvm.ClassFile.FieldType.int) :: zk_T
def w_R_addInput : List Cond := Cond.code y_R_addInput b_R_addInput 2 (Option.some Jvm.ClassFile.FieldType.int) :: zk_T
def w_X_request : List Cond := Cond.code y_X_request b_X_request 1 (Option.some Jvm.ClassFile.FieldType.boolean) :: zk_T
def w_X_pass : List Cond := Cond.code y_X_pass b_X_pass 2 (Option.some Jvm.ClassFile.FieldType.boolean) :: zk_T
def w_X_run : List Cond := Cond.code y_X_run b_X_run 4 (Option.some Jvm.ClassFile.FieldType.int) :: zk_T
def w_M_step : List Cond := Cond.code y_M_step b_M_step 4 (Option.some Jvm.ClassFile.FieldType.boolean) :: zk_T
def w_P_has : List Cond := Cond.code y_P_has b_P_has 2 (Option.some Jvm.ClassFile.FieldType.boolean) :: zk_T
def w_R_takeInterrupt : List Cond := Cond.code y_R_takeInterrupt b_R_takeInterrupt 2 (Option.some Jvm.ClassFile.FieldType.boolean) :: zk_T
def w_J_beginEntry : List Cond := Cond.code y_J_beginEntry b_J_beginEntry 3 none :: zk_T
def w_J_writeNumber : List Cond := Cond.code y_J_writeNumber b_J_writeNumber 6 none :: zk_T
def w_X_sealByte : List Cond := Cond.code y_X_sealByte b_X_sealByte 3 (Option.some Jvm.ClassFile.FieldType.int) :: zk_T
def w_X_mix : List Cond := Cond.code y_X_mix b_X_mix 2 (Option.some Jvm.ClassFile.FieldType.int) :: zk_T
def w_T_takeInterrupt : List Cond := Cond.code y_T_takeInterrupt b_T_takeInterrupt 2 (Option.some Jvm.ClassFile.FieldType.boolean) :: zk_T
def w_T_hasEntry : List Cond := Cond.code y_T_hasEntry b_T_hasEntry 4 (Option.some Jvm.ClassFile.FieldType.boolean) :: zk_T
def w_D_readEntry : List Cond := Cond.code y_D_readEntry b_D_readEntry 3 none :: zk_T
def w_J_has : List Cond := Cond.code y_J_has b_J_has 2 (Option.some Jvm.ClassFile.FieldType.boolean) :: zk_T
def w_D_readNumber : List Cond := Cond.code y_D_readNumber b_D_readNumber 4 (Option.some Jvm.ClassFile.FieldType.int) :: zk_T
def w_M_perform : List Cond := Cond.code y_M_perform b_M_perform 7 none :: zk_T
def w_R_takeInput : List Cond := Cond.code y_R_takeInput b_R_takeInput 3 (Option.some Jvm.ClassFile.FieldType.int) :: zk_T
def w_T_takeInput : List Cond := Cond.code y_T_takeInput b_T_takeInput 3 (Option.some Jvm.ClassFile.FieldType.int) :: zk_T
def w_R_readClock : List Cond := Cond.code y_R_readClock b_R_readClock 2 (Option.some Jvm.ClassFile.FieldType.int) :: zk_T
def w_T_readClock : List Cond := Cond.code y_T_readClock b_T_readClock 2 (Option.some Jvm.ClassFile.FieldType.int) :: zk_T
def w_M_turn : List Cond := Cond.code y_M_turn b_M_turn 4 none :: zk_T
def w_M_followTrace : List Cond := Cond.code y_M_followTrace b_M_followTrace 3 none :: zk_T
def w_X_log : List Cond := Cond.code y_X_log b_X_log 1 (Option.some Jvm.ClassFile.FieldType.int) :: zk_T
def w_X_at : List Cond := Cond.code y_X_at b_X_at 2 (Option.some Jvm.ClassFile.FieldType.int) :: zk_T
def w_X_entries : List Cond := Cond.code y_X_entries b_X_entries 1 (Option.some Jvm.ClassFile.FieldType.int) :: zk_T
def w_X_seal : List Cond := Cond.code y_X_seal b_X_seal 1 (Option.some Jvm.ClassFile.FieldType.int) :: zk_T
def w_X_change : List Cond := Cond.code y_X_change b_X_change 3 (Option.some Jvm.ClassFile.FieldType.boolean) :: zk_T
def w_X_tell : List Cond := Cond.code y_X_tell b_X_tell 4 (Option.some Jvm.ClassFile.FieldType.int) :: zk_T
def w_J_sealNow : List Cond := Cond.code y_J_sealNow b_J_sealNow 3 (Option.some Jvm.ClassFile.FieldType.int) :: zk_T
def w_T_isReadable : List Cond := Cond.code y_T_isReadable b_T_isReadable 2 (Option.some Jvm.ClassFile.FieldType.boolean) :: zk_T
def w_D_rewind : List Cond := Cond.code y_D_rewind b_D_rewind 1 none :: zk_T
def w_T_restart : List Cond := Cond.code y_T_restart b_T_restart 1 none :: zk_T
def w_M_looksLike : List Cond := Cond.code y_M_looksLike b_M_looksLike 3 (Option.some Jvm.ClassFile.FieldType.boolean) :: zk_T
def w_M_stateOf : List Cond := Cond.code y_M_stateOf b_M_stateOf 2 (Option.some Jvm.ClassFile.FieldType.int) :: zk_T
def w_X_state : List Cond := Cond.code y_X_state b_X_state 4 (Option.some Jvm.ClassFile.FieldType.int) :: zk_T
def w_X_machineOf : List Cond := Cond.code y_X_machineOf b_X_machineOf 2 (Option.some (Jvm.ClassFile.FieldType.object "RetoldRun$Machine")) :: zk_T
def w_X_cell : List Cond := Cond.code y_X_cell b_X_cell 4 (Option.some Jvm.ClassFile.FieldType.int) :: zk_T
def w_M_cellOf : List Cond := Cond.code y_M_cellOf b_M_cellOf 2 (Option.some Jvm.ClassFile.FieldType.int) :: zk_T
def w_X_sealed : List Cond := Cond.code y_X_sealed b_X_sealed 6 (Option.some Jvm.ClassFile.FieldType.int) :: zk_T
def w_L_cell : List Cond := Cond.code y_L_cell b_L_cell 2 (Option.some Jvm.ClassFile.FieldType.int) :: zk_T
def w_Y_init : List Cond := Cond.code y_Y_init b_Y_init 2 none :: zk_T
def w_Y_add : List Cond := Cond.code y_Y_add b_Y_add 5 (Option.some Jvm.ClassFile.FieldType.int) :: zk_T
def w_Y_in : List Cond := Cond.code y_Y_in b_Y_in 3 (Option.some Jvm.ClassFile.FieldType.boolean) :: zk_T
def w_Y_clear : List Cond := Cond.code y_Y_clear b_Y_clear 2 (Option.some Jvm.ClassFile.FieldType.int) :: zk_T
def w_Y_anew : List Cond := Cond.code y_Y_anew b_Y_anew 3 none :: zk_T
def w_Y_input : List Cond := Cond.code y_Y_input b_Y_input 2 (Option.some Jvm.ClassFile.FieldType.int) :: zk_T
def w_Y_request : List Cond := Cond.code y_Y_request b_Y_request 2 (Option.some Jvm.ClassFile.FieldType.boolean) :: zk_T
def w_Y_pass : List Cond := Cond.code y_Y_pass b_Y_pass 2 (Option.some Jvm.ClassFile.FieldType.boolean) :: zk_T
def w_Y_run : List Cond := Cond.code y_Y_run b_Y_run 3 (Option.some Jvm.ClassFile.FieldType.int) :: zk_T
def w_Y_step : List Cond := Cond.code y_Y_step b_Y_step 4 none :: zk_T
def w_Y_interrupts : List Cond := Cond.code y_Y_interrupts b_Y_interrupts 3 (Option.some Jvm.ClassFile.FieldType.boolean) :: zk_T
def w_Y_found : List Cond := Cond.code y_Y_found b_Y_found 5 (Option.some Jvm.ClassFile.FieldType.int) :: zk_T
def w_Y_writeEntry : List Cond := Cond.code y_Y_writeEntry b_Y_writeEntry 3 none :: zk_T
def w_Y_writeNumber : List Cond := Cond.code y_Y_writeNumber b_Y_writeNumber 5 none :: zk_T
def w_Y_writeByte : List Cond := Cond.code y_Y_writeByte b_Y_writeByte 2 none :: zk_T
def w_Y_mix : List Cond := Cond.code y_Y_mix b_Y_mix 3 (Option.some Jvm.ClassFile.FieldType.int) :: zk_T
def w_Y_perform : List Cond := Cond.code y_Y_perform b_Y_perform 8 none :: zk_T
def w_Y_mod : List Cond := Cond.code y_Y_mod b_Y_mod 3 (Option.some Jvm.ClassFile.FieldType.int) :: zk_T
def w_Y_inputFor : List Cond := Cond.code y_Y_inputFor b_Y_inputFor 4 (Option.some Jvm.ClassFile.FieldType.int) :: zk_T
def w_Y_timeFor : List Cond := Cond.code y_Y_timeFor b_Y_timeFor 4 (Option.some Jvm.ClassFile.FieldType.int) :: zk_T
def w_Y_trace : List Cond := Cond.code y_Y_trace b_Y_trace 3 none :: zk_T
def w_Y_tell : List Cond := Cond.code y_Y_tell b_Y_tell 6 (Option.some Jvm.ClassFile.FieldType.int) :: zk_T
def w_Y_sealNow : List Cond := Cond.code y_Y_sealNow b_Y_sealNow 3 (Option.some Jvm.ClassFile.FieldType.int) :: zk_T
def w_Y_readAll : List Cond := Cond.code y_Y_readAll b_Y_readAll 8 (Option.some Jvm.ClassFile.FieldType.boolean) :: zk_T
def w_Y_readNumber : List Cond := Cond.code y_Y_readNumber b_Y_readNumber 5 (Option.some Jvm.ClassFile.FieldType.long) :: zk_T
def w_Y_log : List Cond := Cond.code y_Y_log b_Y_log 1 (Option.some Jvm.ClassFile.FieldType.int) :: zk_T
def w_Y_at : List Cond := Cond.code y_Y_at b_Y_at 2 (Option.some Jvm.ClassFile.FieldType.int) :: zk_T
def w_Y_entries : List Cond := Cond.code y_Y_entries b_Y_entries 1 (Option.some Jvm.ClassFile.FieldType.int) :: zk_T
def w_Y_seal : List Cond := Cond.code y_Y_seal b_Y_seal 1 (Option.some Jvm.ClassFile.FieldType.int) :: zk_T
def w_Y_change : List Cond := Cond.code y_Y_change b_Y_change 3 (Option.some Jvm.ClassFile.FieldType.boolean) :: zk_T
def w_Y_state : List Cond := Cond.code y_Y_state b_Y_state 3 (Option.some Jvm.ClassFile.FieldType.int) :: zk_T
def w_Y_cell : List Cond := Cond.code y_Y_cell b_Y_cell 3 (Option.some Jvm.ClassFile.FieldType.int) :: zk_T
def w_Y_sealed : List Cond := Cond.code y_Y_sealed b_Y_sealed 6 (Option.some Jvm.ClassFile.FieldType.int) :: zk_T
/-- words that are no table words: links to a nest mate's private methods, and the abstract methods -/
def zk_N (U : State) : Prop := va_Nw (.methodLinkNest R_X 15 y_P_init R_X) U ∧ va_Nw (.methodLinkNest R_X 22 y_J_init R_X) U ∧ va_Nw (.methodLinkNest R_R 3 y_O_init R_X) U ∧ va_Nw (.methodLinkNest R_T 3 y_O_init R_X) U ∧ va_Nw (.declares y_O_takeInterrupt) U ∧ va_Nw (.methodLinkNest R_J 32 y_X_sealByte R_X) U ∧ va_Nw (.declares y_O_takeInput) U ∧ va_Nw (.declares y_O_readClock) U ∧ va_Nw (.methodLinkNest R_M 85 y_X_mix R_X) U
theorem zk_N.same {u U : State} (h : u.vm = U.vm) (hN : zk_N u) : zk_N U := by
  obtain ⟨h0, h1, h2, h3, h4, h5, h6, h7, h8⟩ := hN
  exact ⟨va_Nw.same rfl h h0, va_Nw.same rfl h h1, va_Nw.same rfl h h2, va_Nw.same rfl h h3, va_Nw.same rfl h h4, va_Nw.same rfl h h5, va_Nw.same rfl h h6, va_Nw.same rfl h h7, va_Nw.same rfl h h8⟩
theorem zk_N.warm {s U : State} (hW : s.WarmedH U.vm) (hN : zk_N s) : zk_N U := by
  obtain ⟨h0, h1, h2, h3, h4, h5, h6, h7, h8⟩ := hN
  exact ⟨va_Nw.warmM hW h0, va_Nw.warmM hW h1, va_Nw.warmM hW h2, va_Nw.warmM hW h3, va_Nw.warmD hW h4, va_Nw.warmM hW h5, va_Nw.warmD hW h6, va_Nw.warmD hW h7, va_Nw.warmM hW h8⟩
