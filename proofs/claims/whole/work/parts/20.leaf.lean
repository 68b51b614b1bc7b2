theorem fr_ne {M : Mem} {q b : Nat} {e : va_E} (h : M q = none) (hb : M b = some e) : b ≠ q := fun z => by rw [z, h] at hb; cases hb
theorem hy_Bs_init : y_Bs_init.cls ≠ "java/lang/invoke/MethodHandle" ∧ y_Bs_init.cls ≠ "java/lang/invoke/VarHandle" ∧ (parseMethodDescriptor y_Bs_init.desc).map (fun d => d.parameters.length) = some 2 := by decide +kernel
theorem hy_Ln_init : y_Ln_init.cls ≠ "java/lang/invoke/MethodHandle" ∧ y_Ln_init.cls ≠ "java/lang/invoke/VarHandle" ∧ (parseMethodDescriptor y_Ln_init.desc).map (fun d => d.parameters.length) = some 1 := by decide +kernel
theorem hy_Ms_init : y_Ms_init.cls ≠ "java/lang/invoke/MethodHandle" ∧ y_Ms_init.cls ≠ "java/lang/invoke/VarHandle" ∧ (parseMethodDescriptor y_Ms_init.desc).map (fun d => d.parameters.length) = some 0 := by decide +kernel
theorem hy_Bs_clamp : y_Bs_clamp.cls ≠ "java/lang/invoke/MethodHandle" ∧ y_Bs_clamp.cls ≠ "java/lang/invoke/VarHandle" ∧ (parseMethodDescriptor y_Bs_clamp.desc).map (fun d => d.parameters.length) = some 3 := by decide +kernel
theorem hy_St_init : y_St_init.cls ≠ "java/lang/invoke/MethodHandle" ∧ y_St_init.cls ≠ "java/lang/invoke/VarHandle" ∧ (parseMethodDescriptor y_St_init.desc).map (fun d => d.parameters.length) = some 1 := by decide +kernel
theorem hy_Bs_beginSession : y_Bs_beginSession.cls ≠ "java/lang/invoke/MethodHandle" ∧ y_Bs_beginSession.cls ≠ "java/lang/invoke/VarHandle" ∧ (parseMethodDescriptor y_Bs_beginSession.desc).map (fun d => d.parameters.length) = some 0 := by decide +kernel
theorem hy_Bs_write : y_Bs_write.cls ≠ "java/lang/invoke/MethodHandle" ∧ y_Bs_write.cls ≠ "java/lang/invoke/VarHandle" ∧ (parseMethodDescriptor y_Bs_write.desc).map (fun d => d.parameters.length) = some 3 := by decide +kernel
theorem hy_Bs_isStretch : y_Bs_isStretch.cls ≠ "java/lang/invoke/MethodHandle" ∧ y_Bs_isStretch.cls ≠ "java/lang/invoke/VarHandle" ∧ (parseMethodDescriptor y_Bs_isStretch.desc).map (fun d => d.parameters.length) = some 2 := by decide +kernel
theorem hy_Bs_isBlock : y_Bs_isBlock.cls ≠ "java/lang/invoke/MethodHandle" ∧ y_Bs_isBlock.cls ≠ "java/lang/invoke/VarHandle" ∧ (parseMethodDescriptor y_Bs_isBlock.desc).map (fun d => d.parameters.length) = some 1 := by decide +kernel
theorem hy_Bs_addRequest : y_Bs_addRequest.cls ≠ "java/lang/invoke/MethodHandle" ∧ y_Bs_addRequest.cls ≠ "java/lang/invoke/VarHandle" ∧ (parseMethodDescriptor y_Bs_addRequest.desc).map (fun d => d.parameters.length) = some 4 := by decide +kernel
theorem hy_Rq_init : y_Rq_init.cls ≠ "java/lang/invoke/MethodHandle" ∧ y_Rq_init.cls ≠ "java/lang/invoke/VarHandle" ∧ (parseMethodDescriptor y_Rq_init.desc).map (fun d => d.parameters.length) = some 4 := by decide +kernel
theorem hy_Bs_read : y_Bs_read.cls ≠ "java/lang/invoke/MethodHandle" ∧ y_Bs_read.cls ≠ "java/lang/invoke/VarHandle" ∧ (parseMethodDescriptor y_Bs_read.desc).map (fun d => d.parameters.length) = some 2 := by decide +kernel
theorem hy_Bs_sync : y_Bs_sync.cls ≠ "java/lang/invoke/MethodHandle" ∧ y_Bs_sync.cls ≠ "java/lang/invoke/VarHandle" ∧ (parseMethodDescriptor y_Bs_sync.desc).map (fun d => d.parameters.length) = some 0 := by decide +kernel
theorem hy_Bs_send : y_Bs_send.cls ≠ "java/lang/invoke/MethodHandle" ∧ y_Bs_send.cls ≠ "java/lang/invoke/VarHandle" ∧ (parseMethodDescriptor y_Bs_send.desc).map (fun d => d.parameters.length) = some 0 := by decide +kernel
theorem hy_Bs_firstOpenRequest : y_Bs_firstOpenRequest.cls ≠ "java/lang/invoke/MethodHandle" ∧ y_Bs_firstOpenRequest.cls ≠ "java/lang/invoke/VarHandle" ∧ (parseMethodDescriptor y_Bs_firstOpenRequest.desc).map (fun d => d.parameters.length) = some 0 := by decide +kernel
theorem hy_Bs_sendUp : y_Bs_sendUp.cls ≠ "java/lang/invoke/MethodHandle" ∧ y_Bs_sendUp.cls ≠ "java/lang/invoke/VarHandle" ∧ (parseMethodDescriptor y_Bs_sendUp.desc).map (fun d => d.parameters.length) = some 3 := by decide +kernel
theorem hy_Ln_putNewest : y_Ln_putNewest.cls ≠ "java/lang/invoke/MethodHandle" ∧ y_Ln_putNewest.cls ≠ "java/lang/invoke/VarHandle" ∧ (parseMethodDescriptor y_Ln_putNewest.desc).map (fun d => d.parameters.length) = some 0 := by decide +kernel
theorem hy_Ms_fill : y_Ms_fill.cls ≠ "java/lang/invoke/MethodHandle" ∧ y_Ms_fill.cls ≠ "java/lang/invoke/VarHandle" ∧ (parseMethodDescriptor y_Ms_fill.desc).map (fun d => d.parameters.length) = some 5 := by decide +kernel
theorem hy_Bs_deliver : y_Bs_deliver.cls ≠ "java/lang/invoke/MethodHandle" ∧ y_Bs_deliver.cls ≠ "java/lang/invoke/VarHandle" ∧ (parseMethodDescriptor y_Bs_deliver.desc).map (fun d => d.parameters.length) = some 1 := by decide +kernel
theorem hy_Bs_lineOf : y_Bs_lineOf.cls ≠ "java/lang/invoke/MethodHandle" ∧ y_Bs_lineOf.cls ≠ "java/lang/invoke/VarHandle" ∧ (parseMethodDescriptor y_Bs_lineOf.desc).map (fun d => d.parameters.length) = some 1 := by decide +kernel
theorem hy_Ln_takeOldest : y_Ln_takeOldest.cls ≠ "java/lang/invoke/MethodHandle" ∧ y_Ln_takeOldest.cls ≠ "java/lang/invoke/VarHandle" ∧ (parseMethodDescriptor y_Ln_takeOldest.desc).map (fun d => d.parameters.length) = some 0 := by decide +kernel
theorem hy_Bs_breakSession : y_Bs_breakSession.cls ≠ "java/lang/invoke/MethodHandle" ∧ y_Bs_breakSession.cls ≠ "java/lang/invoke/VarHandle" ∧ (parseMethodDescriptor y_Bs_breakSession.desc).map (fun d => d.parameters.length) = some 0 := by decide +kernel
theorem hy_Ln_clear : y_Ln_clear.cls ≠ "java/lang/invoke/MethodHandle" ∧ y_Ln_clear.cls ≠ "java/lang/invoke/VarHandle" ∧ (parseMethodDescriptor y_Ln_clear.desc).map (fun d => d.parameters.length) = some 0 := by decide +kernel
theorem hy_Rq_reopen : y_Rq_reopen.cls ≠ "java/lang/invoke/MethodHandle" ∧ y_Rq_reopen.cls ≠ "java/lang/invoke/VarHandle" ∧ (parseMethodDescriptor y_Rq_reopen.desc).map (fun d => d.parameters.length) = some 0 := by decide +kernel
theorem hy_Ar_fill : y_Ar_fill.cls ≠ "java/lang/invoke/MethodHandle" ∧ y_Ar_fill.cls ≠ "java/lang/invoke/VarHandle" ∧ (parseMethodDescriptor y_Ar_fill.desc).map (fun d => d.parameters.length) = some 2 := by decide +kernel
theorem hy_Bs_workAtTarget : y_Bs_workAtTarget.cls ≠ "java/lang/invoke/MethodHandle" ∧ y_Bs_workAtTarget.cls ≠ "java/lang/invoke/VarHandle" ∧ (parseMethodDescriptor y_Bs_workAtTarget.desc).map (fun d => d.parameters.length) = some 1 := by decide +kernel
theorem hy_Bs_requestAt : y_Bs_requestAt.cls ≠ "java/lang/invoke/MethodHandle" ∧ y_Bs_requestAt.cls ≠ "java/lang/invoke/VarHandle" ∧ (parseMethodDescriptor y_Bs_requestAt.desc).map (fun d => d.parameters.length) = some 1 := by decide +kernel
theorem hy_Bs_workPartOfWrite : y_Bs_workPartOfWrite.cls ≠ "java/lang/invoke/MethodHandle" ∧ y_Bs_workPartOfWrite.cls ≠ "java/lang/invoke/VarHandle" ∧ (parseMethodDescriptor y_Bs_workPartOfWrite.desc).map (fun d => d.parameters.length) = some 3 := by decide +kernel
theorem hy_Bs_sendDown : y_Bs_sendDown.cls ≠ "java/lang/invoke/MethodHandle" ∧ y_Bs_sendDown.cls ≠ "java/lang/invoke/VarHandle" ∧ (parseMethodDescriptor y_Bs_sendDown.desc).map (fun d => d.parameters.length) = some 4 := by decide +kernel
theorem hy_St_put : y_St_put.cls ≠ "java/lang/invoke/MethodHandle" ∧ y_St_put.cls ≠ "java/lang/invoke/VarHandle" ∧ (parseMethodDescriptor y_St_put.desc).map (fun d => d.parameters.length) = some 2 := by decide +kernel
theorem hy_St_placeOf : y_St_placeOf.cls ≠ "java/lang/invoke/MethodHandle" ∧ y_St_placeOf.cls ≠ "java/lang/invoke/VarHandle" ∧ (parseMethodDescriptor y_St_placeOf.desc).map (fun d => d.parameters.length) = some 1 := by decide +kernel
theorem hy_St_writeBackFirst : y_St_writeBackFirst.cls ≠ "java/lang/invoke/MethodHandle" ∧ y_St_writeBackFirst.cls ≠ "java/lang/invoke/VarHandle" ∧ (parseMethodDescriptor y_St_writeBackFirst.desc).map (fun d => d.parameters.length) = some 0 := by decide +kernel
theorem hy_Bs_finish : y_Bs_finish.cls ≠ "java/lang/invoke/MethodHandle" ∧ y_Bs_finish.cls ≠ "java/lang/invoke/VarHandle" ∧ (parseMethodDescriptor y_Bs_finish.desc).map (fun d => d.parameters.length) = some 1 := by decide +kernel
theorem hy_Bs_workRead : y_Bs_workRead.cls ≠ "java/lang/invoke/MethodHandle" ∧ y_Bs_workRead.cls ≠ "java/lang/invoke/VarHandle" ∧ (parseMethodDescriptor y_Bs_workRead.desc).map (fun d => d.parameters.length) = some 2 := by decide +kernel
theorem hy_St_presentInt : y_St_presentInt.cls ≠ "java/lang/invoke/MethodHandle" ∧ y_St_presentInt.cls ≠ "java/lang/invoke/VarHandle" ∧ (parseMethodDescriptor y_St_presentInt.desc).map (fun d => d.parameters.length) = some 1 := by decide +kernel
theorem hy_Bs_workSync : y_Bs_workSync.cls ≠ "java/lang/invoke/MethodHandle" ∧ y_Bs_workSync.cls ≠ "java/lang/invoke/VarHandle" ∧ (parseMethodDescriptor y_Bs_workSync.desc).map (fun d => d.parameters.length) = some 1 := by decide +kernel
theorem hy_St_writeBackAll : y_St_writeBackAll.cls ≠ "java/lang/invoke/MethodHandle" ∧ y_St_writeBackAll.cls ≠ "java/lang/invoke/VarHandle" ∧ (parseMethodDescriptor y_St_writeBackAll.desc).map (fun d => d.parameters.length) = some 0 := by decide +kernel
theorem hy_Bs_takeAtInitiator : y_Bs_takeAtInitiator.cls ≠ "java/lang/invoke/MethodHandle" ∧ y_Bs_takeAtInitiator.cls ≠ "java/lang/invoke/VarHandle" ∧ (parseMethodDescriptor y_Bs_takeAtInitiator.desc).map (fun d => d.parameters.length) = some 1 := by decide +kernel
theorem hy_Rq_keepResult : y_Rq_keepResult.cls ≠ "java/lang/invoke/MethodHandle" ∧ y_Rq_keepResult.cls ≠ "java/lang/invoke/VarHandle" ∧ (parseMethodDescriptor y_Rq_keepResult.desc).map (fun d => d.parameters.length) = some 2 := by decide +kernel
theorem hy_Bs_damage : y_Bs_damage.cls ≠ "java/lang/invoke/MethodHandle" ∧ y_Bs_damage.cls ≠ "java/lang/invoke/VarHandle" ∧ (parseMethodDescriptor y_Bs_damage.desc).map (fun d => d.parameters.length) = some 2 := by decide +kernel
theorem hy_Ln_messageAt : y_Ln_messageAt.cls ≠ "java/lang/invoke/MethodHandle" ∧ y_Ln_messageAt.cls ≠ "java/lang/invoke/VarHandle" ∧ (parseMethodDescriptor y_Ln_messageAt.desc).map (fun d => d.parameters.length) = some 1 := by decide +kernel
theorem hy_Bs_drop : y_Bs_drop.cls ≠ "java/lang/invoke/MethodHandle" ∧ y_Bs_drop.cls ≠ "java/lang/invoke/VarHandle" ∧ (parseMethodDescriptor y_Bs_drop.desc).map (fun d => d.parameters.length) = some 0 := by decide +kernel
theorem hy_Bs_crash : y_Bs_crash.cls ≠ "java/lang/invoke/MethodHandle" ∧ y_Bs_crash.cls ≠ "java/lang/invoke/VarHandle" ∧ (parseMethodDescriptor y_Bs_crash.desc).map (fun d => d.parameters.length) = some 0 := by decide +kernel
theorem hy_St_loseCache : y_St_loseCache.cls ≠ "java/lang/invoke/MethodHandle" ∧ y_St_loseCache.cls ≠ "java/lang/invoke/VarHandle" ∧ (parseMethodDescriptor y_St_loseCache.desc).map (fun d => d.parameters.length) = some 0 := by decide +kernel
theorem hy_Bs_login : y_Bs_login.cls ≠ "java/lang/invoke/MethodHandle" ∧ y_Bs_login.cls ≠ "java/lang/invoke/VarHandle" ∧ (parseMethodDescriptor y_Bs_login.desc).map (fun d => d.parameters.length) = some 0 := by decide +kernel
theorem hy_Bs_requestsIn : y_Bs_requestsIn.cls ≠ "java/lang/invoke/MethodHandle" ∧ y_Bs_requestsIn.cls ≠ "java/lang/invoke/VarHandle" ∧ (parseMethodDescriptor y_Bs_requestsIn.desc).map (fun d => d.parameters.length) = some 1 := by decide +kernel
theorem hy_Bs_flush : y_Bs_flush.cls ≠ "java/lang/invoke/MethodHandle" ∧ y_Bs_flush.cls ≠ "java/lang/invoke/VarHandle" ∧ (parseMethodDescriptor y_Bs_flush.desc).map (fun d => d.parameters.length) = some 0 := by decide +kernel
theorem hy_Bs_state : y_Bs_state.cls ≠ "java/lang/invoke/MethodHandle" ∧ y_Bs_state.cls ≠ "java/lang/invoke/VarHandle" ∧ (parseMethodDescriptor y_Bs_state.desc).map (fun d => d.parameters.length) = some 1 := by decide +kernel
theorem hy_Bs_result : y_Bs_result.cls ≠ "java/lang/invoke/MethodHandle" ∧ y_Bs_result.cls ≠ "java/lang/invoke/VarHandle" ∧ (parseMethodDescriptor y_Bs_result.desc).map (fun d => d.parameters.length) = some 2 := by decide +kernel
theorem hy_Bs_present : y_Bs_present.cls ≠ "java/lang/invoke/MethodHandle" ∧ y_Bs_present.cls ≠ "java/lang/invoke/VarHandle" ∧ (parseMethodDescriptor y_Bs_present.desc).map (fun d => d.parameters.length) = some 1 := by decide +kernel
theorem hy_Bs_disk : y_Bs_disk.cls ≠ "java/lang/invoke/MethodHandle" ∧ y_Bs_disk.cls ≠ "java/lang/invoke/VarHandle" ∧ (parseMethodDescriptor y_Bs_disk.desc).map (fun d => d.parameters.length) = some 1 := by decide +kernel
theorem hy_Bs_cached : y_Bs_cached.cls ≠ "java/lang/invoke/MethodHandle" ∧ y_Bs_cached.cls ≠ "java/lang/invoke/VarHandle" ∧ (parseMethodDescriptor y_Bs_cached.desc).map (fun d => d.parameters.length) = some 1 := by decide +kernel
theorem hy_St_blockAt : y_St_blockAt.cls ≠ "java/lang/invoke/MethodHandle" ∧ y_St_blockAt.cls ≠ "java/lang/invoke/VarHandle" ∧ (parseMethodDescriptor y_St_blockAt.desc).map (fun d => d.parameters.length) = some 1 := by decide +kernel
theorem hy_Bs_message : y_Bs_message.cls ≠ "java/lang/invoke/MethodHandle" ∧ y_Bs_message.cls ≠ "java/lang/invoke/VarHandle" ∧ (parseMethodDescriptor y_Bs_message.desc).map (fun d => d.parameters.length) = some 3 := by decide +kernel
theorem hy_Bs_waiting : y_Bs_waiting.cls ≠ "java/lang/invoke/MethodHandle" ∧ y_Bs_waiting.cls ≠ "java/lang/invoke/VarHandle" ∧ (parseMethodDescriptor y_Bs_waiting.desc).map (fun d => d.parameters.length) = some 1 := by decide +kernel
theorem hy_Bs_count : y_Bs_count.cls ≠ "java/lang/invoke/MethodHandle" ∧ y_Bs_count.cls ≠ "java/lang/invoke/VarHandle" ∧ (parseMethodDescriptor y_Bs_count.desc).map (fun d => d.parameters.length) = some 1 := by decide +kernel
theorem hy_Lw_cell : y_Lw_cell.cls ≠ "java/lang/invoke/MethodHandle" ∧ y_Lw_cell.cls ≠ "java/lang/invoke/VarHandle" ∧ (parseMethodDescriptor y_Lw_cell.desc).map (fun d => d.parameters.length) = some 2 := by decide +kernel
theorem hy_Md_init : y_Md_init.cls ≠ "java/lang/invoke/MethodHandle" ∧ y_Md_init.cls ≠ "java/lang/invoke/VarHandle" ∧ (parseMethodDescriptor y_Md_init.desc).map (fun d => d.parameters.length) = some 2 := by decide +kernel
theorem hy_Md_write : y_Md_write.cls ≠ "java/lang/invoke/MethodHandle" ∧ y_Md_write.cls ≠ "java/lang/invoke/VarHandle" ∧ (parseMethodDescriptor y_Md_write.desc).map (fun d => d.parameters.length) = some 3 := by decide +kernel
theorem hy_Md_outside : y_Md_outside.cls ≠ "java/lang/invoke/MethodHandle" ∧ y_Md_outside.cls ≠ "java/lang/invoke/VarHandle" ∧ (parseMethodDescriptor y_Md_outside.desc).map (fun d => d.parameters.length) = some 2 := by decide +kernel
theorem hy_Md_add : y_Md_add.cls ≠ "java/lang/invoke/MethodHandle" ∧ y_Md_add.cls ≠ "java/lang/invoke/VarHandle" ∧ (parseMethodDescriptor y_Md_add.desc).map (fun d => d.parameters.length) = some 4 := by decide +kernel
theorem hy_Md_read : y_Md_read.cls ≠ "java/lang/invoke/MethodHandle" ∧ y_Md_read.cls ≠ "java/lang/invoke/VarHandle" ∧ (parseMethodDescriptor y_Md_read.desc).map (fun d => d.parameters.length) = some 2 := by decide +kernel
theorem hy_Md_sync : y_Md_sync.cls ≠ "java/lang/invoke/MethodHandle" ∧ y_Md_sync.cls ≠ "java/lang/invoke/VarHandle" ∧ (parseMethodDescriptor y_Md_sync.desc).map (fun d => d.parameters.length) = some 0 := by decide +kernel
theorem hy_Md_flush : y_Md_flush.cls ≠ "java/lang/invoke/MethodHandle" ∧ y_Md_flush.cls ≠ "java/lang/invoke/VarHandle" ∧ (parseMethodDescriptor y_Md_flush.desc).map (fun d => d.parameters.length) = some 0 := by decide +kernel
theorem hy_Md_blockAt : y_Md_blockAt.cls ≠ "java/lang/invoke/MethodHandle" ∧ y_Md_blockAt.cls ≠ "java/lang/invoke/VarHandle" ∧ (parseMethodDescriptor y_Md_blockAt.desc).map (fun d => d.parameters.length) = some 1 := by decide +kernel
theorem hy_Md_send : y_Md_send.cls ≠ "java/lang/invoke/MethodHandle" ∧ y_Md_send.cls ≠ "java/lang/invoke/VarHandle" ∧ (parseMethodDescriptor y_Md_send.desc).map (fun d => d.parameters.length) = some 0 := by decide +kernel
theorem hy_Md_number : y_Md_number.cls ≠ "java/lang/invoke/MethodHandle" ∧ y_Md_number.cls ≠ "java/lang/invoke/VarHandle" ∧ (parseMethodDescriptor y_Md_number.desc).map (fun d => d.parameters.length) = some 1 := by decide +kernel
theorem hy_Md_post : y_Md_post.cls ≠ "java/lang/invoke/MethodHandle" ∧ y_Md_post.cls ≠ "java/lang/invoke/VarHandle" ∧ (parseMethodDescriptor y_Md_post.desc).map (fun d => d.parameters.length) = some 5 := by decide +kernel
theorem hy_Md_deliver : y_Md_deliver.cls ≠ "java/lang/invoke/MethodHandle" ∧ y_Md_deliver.cls ≠ "java/lang/invoke/VarHandle" ∧ (parseMethodDescriptor y_Md_deliver.desc).map (fun d => d.parameters.length) = some 1 := by decide +kernel
theorem hy_Md_end : y_Md_end.cls ≠ "java/lang/invoke/MethodHandle" ∧ y_Md_end.cls ≠ "java/lang/invoke/VarHandle" ∧ (parseMethodDescriptor y_Md_end.desc).map (fun d => d.parameters.length) = some 0 := by decide +kernel
theorem hy_Md_work : y_Md_work.cls ≠ "java/lang/invoke/MethodHandle" ∧ y_Md_work.cls ≠ "java/lang/invoke/VarHandle" ∧ (parseMethodDescriptor y_Md_work.desc).map (fun d => d.parameters.length) = some 3 := by decide +kernel
theorem hy_Md_putAll : y_Md_putAll.cls ≠ "java/lang/invoke/MethodHandle" ∧ y_Md_putAll.cls ≠ "java/lang/invoke/VarHandle" ∧ (parseMethodDescriptor y_Md_putAll.desc).map (fun d => d.parameters.length) = some 1 := by decide +kernel
theorem hy_Md_put : y_Md_put.cls ≠ "java/lang/invoke/MethodHandle" ∧ y_Md_put.cls ≠ "java/lang/invoke/VarHandle" ∧ (parseMethodDescriptor y_Md_put.desc).map (fun d => d.parameters.length) = some 2 := by decide +kernel
theorem hy_Md_size : y_Md_size.cls ≠ "java/lang/invoke/MethodHandle" ∧ y_Md_size.cls ≠ "java/lang/invoke/VarHandle" ∧ (parseMethodDescriptor y_Md_size.desc).map (fun d => d.parameters.length) = some 0 := by decide +kernel
theorem hy_Md_finish : y_Md_finish.cls ≠ "java/lang/invoke/MethodHandle" ∧ y_Md_finish.cls ≠ "java/lang/invoke/VarHandle" ∧ (parseMethodDescriptor y_Md_finish.desc).map (fun d => d.parameters.length) = some 1 := by decide +kernel
theorem hy_Md_valueOf : y_Md_valueOf.cls ≠ "java/lang/invoke/MethodHandle" ∧ y_Md_valueOf.cls ≠ "java/lang/invoke/VarHandle" ∧ (parseMethodDescriptor y_Md_valueOf.desc).map (fun d => d.parameters.length) = some 1 := by decide +kernel
theorem hy_Md_take : y_Md_take.cls ≠ "java/lang/invoke/MethodHandle" ∧ y_Md_take.cls ≠ "java/lang/invoke/VarHandle" ∧ (parseMethodDescriptor y_Md_take.desc).map (fun d => d.parameters.length) = some 5 := by decide +kernel
theorem hy_Md_damage : y_Md_damage.cls ≠ "java/lang/invoke/MethodHandle" ∧ y_Md_damage.cls ≠ "java/lang/invoke/VarHandle" ∧ (parseMethodDescriptor y_Md_damage.desc).map (fun d => d.parameters.length) = some 2 := by decide +kernel
theorem hy_Md_drop : y_Md_drop.cls ≠ "java/lang/invoke/MethodHandle" ∧ y_Md_drop.cls ≠ "java/lang/invoke/VarHandle" ∧ (parseMethodDescriptor y_Md_drop.desc).map (fun d => d.parameters.length) = some 0 := by decide +kernel
theorem hy_Md_crash : y_Md_crash.cls ≠ "java/lang/invoke/MethodHandle" ∧ y_Md_crash.cls ≠ "java/lang/invoke/VarHandle" ∧ (parseMethodDescriptor y_Md_crash.desc).map (fun d => d.parameters.length) = some 0 := by decide +kernel
theorem hy_Md_login : y_Md_login.cls ≠ "java/lang/invoke/MethodHandle" ∧ y_Md_login.cls ≠ "java/lang/invoke/VarHandle" ∧ (parseMethodDescriptor y_Md_login.desc).map (fun d => d.parameters.length) = some 0 := by decide +kernel
theorem hy_Md_state : y_Md_state.cls ≠ "java/lang/invoke/MethodHandle" ∧ y_Md_state.cls ≠ "java/lang/invoke/VarHandle" ∧ (parseMethodDescriptor y_Md_state.desc).map (fun d => d.parameters.length) = some 1 := by decide +kernel
theorem hy_Md_result : y_Md_result.cls ≠ "java/lang/invoke/MethodHandle" ∧ y_Md_result.cls ≠ "java/lang/invoke/VarHandle" ∧ (parseMethodDescriptor y_Md_result.desc).map (fun d => d.parameters.length) = some 2 := by decide +kernel
theorem hy_Md_present : y_Md_present.cls ≠ "java/lang/invoke/MethodHandle" ∧ y_Md_present.cls ≠ "java/lang/invoke/VarHandle" ∧ (parseMethodDescriptor y_Md_present.desc).map (fun d => d.parameters.length) = some 1 := by decide +kernel
theorem hy_Md_disk : y_Md_disk.cls ≠ "java/lang/invoke/MethodHandle" ∧ y_Md_disk.cls ≠ "java/lang/invoke/VarHandle" ∧ (parseMethodDescriptor y_Md_disk.desc).map (fun d => d.parameters.length) = some 1 := by decide +kernel
theorem hy_Md_cached : y_Md_cached.cls ≠ "java/lang/invoke/MethodHandle" ∧ y_Md_cached.cls ≠ "java/lang/invoke/VarHandle" ∧ (parseMethodDescriptor y_Md_cached.desc).map (fun d => d.parameters.length) = some 1 := by decide +kernel
theorem hy_Md_message : y_Md_message.cls ≠ "java/lang/invoke/MethodHandle" ∧ y_Md_message.cls ≠ "java/lang/invoke/VarHandle" ∧ (parseMethodDescriptor y_Md_message.desc).map (fun d => d.parameters.length) = some 3 := by decide +kernel
theorem hy_Md_waiting : y_Md_waiting.cls ≠ "java/lang/invoke/MethodHandle" ∧ y_Md_waiting.cls ≠ "java/lang/invoke/VarHandle" ∧ (parseMethodDescriptor y_Md_waiting.desc).map (fun d => d.parameters.length) = some 1 := by decide +kernel
theorem hy_Md_count : y_Md_count.cls ≠ "java/lang/invoke/MethodHandle" ∧ y_Md_count.cls ≠ "java/lang/invoke/VarHandle" ∧ (parseMethodDescriptor y_Md_count.desc).map (fun d => d.parameters.length) = some 1 := by decide +kernel
theorem hy_Lw_law : y_Lw_law.cls ≠ "java/lang/invoke/MethodHandle" ∧ y_Lw_law.cls ≠ "java/lang/invoke/VarHandle" ∧ (parseMethodDescriptor y_Lw_law.desc).map (fun d => d.parameters.length) = some 1 := by decide +kernel
set_option maxHeartbeats 4000000 in
set_option maxRecDepth 100000 in
theorem ct_Ln_clear {D : va_G} {l : Launch} {cI cZ cR cM : ClassId} {M : Mem} {ln sl sz : Nat} (h1 : M ln = some (ob 0 [.ref sl, .int (nI sz)])) : Ct TT D cls (tyL cI cZ cR cM) l y_Ln_clear b_Ln_clear 1 none 0 0 0 0 [.ref ln] M (fun rv M' => rv = none ∧ M' = mset M ln (ob 0 [.ref sl, .int (nI 0)])) := by
  refine ct_of "BlockTargetSession$Line" rfl (by decide) (Nat.le_of_ble_eq_true rfl) ?_
  intro Z hl hD hnm hQ C
  subst hl
  subst hD
  show V cls 1 (rmOf 0 0 0 0) Z 0 [(0, .ref ln)] [] M 0 0
  refine v_aload_n C (i := 0) d_Ln_clear_0 rfl rfl ?_
  refine v_iconst C (v := 0) d_Ln_clear_1 (by decide) ?_
  refine v_put C in_Ln t_Ln to_Ln nm_Ln h1 cl_Ln 1 (by decide) (fs' := [.ref sl, .int 0]) w_58 rfl rfl rfl rfl (Nat.le_of_ble_eq_true rfl) rfl d_Ln_clear_2 ?_
  exact v_vret hQ C rfl d_Ln_clear_5 (by omega) (by omega) ⟨rfl, by rw [nI_0]⟩
set_option maxHeartbeats 4000000 in
set_option maxRecDepth 100000 in
theorem ct_Ln_messageAt {D : va_G} {l : Launch} {cI cZ cR cM : ClassId} {M : Mem} {ln sl sz N : Nat} {g : Nat → Option Nat} {a : Nat → Nat} (h1 : M ln = some (ob 0 [.ref sl, .int (nI sz)])) (h2 : M sl = some (aQ cM N g)) (hN : N ≤ 200) (hsz : sz ≤ N) (hg : ∀ j, j < N → g j = some (a j)) (x : Int32) : Ct TT D cls (tyL cI cZ cR cM) l y_Ln_messageAt b_Ln_messageAt 2 (some (.object "BlockTargetSession$Message")) 0 0 0 0 [.ref ln, .int x] M (fun rv M' => M' = M ∧ ((rv = some .null ∧ (x < 0 ∨ nI sz ≤ x)) ∨ ∃ j, j < sz ∧ x = nI j ∧ rv = some (.ref (a j)))) := by
  refine ct_of "BlockTargetSession$Line" rfl (by decide) (Nat.le_of_ble_eq_true rfl) ?_
  intro Z hl hD hnm hQ C
  subst hl
  subst hD
  show V cls 2 (rmOf 0 0 0 0) Z 0 [(0, .ref ln), (1, .int x)] [] M 0 0
  refine v_iload_n C (i := 1) d_Ln_messageAt_0 rfl rfl ?_
  refine v_if_lt C 21 d_Ln_messageAt_1 (by decide) (fun c_1 => ?_) (fun c_1 => ?_)
  · refine v_null C d_Ln_messageAt_21 ?_
    exact v_aret hQ C rfl (Or.inl rfl) d_Ln_messageAt_22 (by omega) (by omega) ⟨rfl, Or.inl ⟨rfl, Or.inl c_1⟩⟩
  · refine v_iload_n C (i := 1) d_Ln_messageAt_4 rfl rfl ?_
    refine v_aload_n C (i := 0) d_Ln_messageAt_5 rfl rfl ?_
    refine v_get C (v := .int (nI sz)) in_Ln h1 cl_Ln 1 (by decide) w_58 rfl rfl d_Ln_messageAt_6 ?_
    refine v_icmp_ge C 21 d_Ln_messageAt_9 (by decide) (fun c_9 => ?_) (fun c_9 => ?_)
    · refine v_null C d_Ln_messageAt_21 ?_
      exact v_aret hQ C rfl (Or.inl rfl) d_Ln_messageAt_22 (by omega) (by omega) ⟨rfl, Or.inl ⟨rfl, Or.inr c_9⟩⟩
    · obtain ⟨j, hj, rfl⟩ : ∃ j : Nat, j < sz ∧ x = nI j := by
        rcases pk_ix x (n := sz) (by omega) with h | h | h
        · exact absurd h c_1
        · exact absurd h c_9
        · exact h
      refine v_aload_n C (i := 0) d_Ln_messageAt_12 rfl rfl ?_
      refine v_get C (v := .ref sl) in_Ln h1 cl_Ln 0 (by decide) w_57 rfl rfl d_Ln_messageAt_13 ?_
      refine v_iload_n C (i := 1) d_Ln_messageAt_16 rfl rfl ?_
      refine v_aldq C (N := N) (f := g) 3 h2 rfl (pk_in j N (by omega)) (v := .ref (a j)) (by rw [pk_cl j, hg j (by omega)]; rfl) d_Ln_messageAt_17 ?_
      refine v_goto C 22 d_Ln_messageAt_18 (by decide) ?_
      exact v_aret hQ C rfl (Or.inr ⟨_, rfl⟩) d_Ln_messageAt_22 (by omega) (by omega) ⟨rfl, Or.inr ⟨j, hj, rfl, rfl⟩⟩
set_option maxHeartbeats 4000000 in
set_option maxRecDepth 100000 in
theorem ct_Ln_putNewest {D : va_G} {l : Launch} {cI cZ cR cM : ClassId} {M : Mem} {ln sl sz N : Nat} {g : Nat → Option Nat} {a : Nat → Nat} (h1 : M ln = some (ob 0 [.ref sl, .int (nI sz)])) (h2 : M sl = some (aQ cM N g)) (hN : N ≤ 200) (hsz : sz ≤ N) (hg : ∀ j, j < N → g j = some (a j)) : Ct TT D cls (tyL cI cZ cR cM) l y_Ln_putNewest b_Ln_putNewest 1 (some (.object "BlockTargetSession$Message")) 0 0 0 0 [.ref ln] M (fun rv M' => (N ≤ sz ∧ rv = some .null ∧ M' = M) ∨ (sz < N ∧ rv = some (.ref (a sz)) ∧ M' = mset M ln (ob 0 [.ref sl, .int (nI (sz + 1))]))) := by
  refine ct_of "BlockTargetSession$Line" rfl (by decide) (Nat.le_of_ble_eq_true rfl) ?_
  intro Z hl hD hnm hQ C
  subst hl
  subst hD
  show V cls 1 (rmOf 0 0 0 0) Z 0 [(0, .ref ln)] [] M 0 0
  refine v_aload_n C (i := 0) d_Ln_putNewest_0 rfl rfl ?_
  refine v_get C (v := .int (nI sz)) in_Ln h1 cl_Ln 1 (by decide) w_58 rfl rfl d_Ln_putNewest_1 ?_
  refine v_aload_n C (i := 0) d_Ln_putNewest_4 rfl rfl ?_
  refine v_get C (v := .ref sl) in_Ln h1 cl_Ln 0 (by decide) w_57 rfl rfl d_Ln_putNewest_5 ?_
  refine v_alen C (x := (N, .inr (.inr (.inr (.inr g))))) (v := nI N) 3 h2 rfl rfl d_Ln_putNewest_8 ?_
  refine v_icmp_lt C 14 d_Ln_putNewest_9 (by decide) (fun c_9 => ?_) (fun c_9 => ?_)
  · have hlt : sz < N := (nI_ltI (by omega) (by omega)).mp c_9
    refine v_aload_n C (i := 0) d_Ln_putNewest_14 rfl rfl ?_
    refine v_dup C d_Ln_putNewest_15 rfl ?_
    refine v_get C (v := .int (nI sz)) in_Ln h1 cl_Ln 1 (by decide) w_58 rfl rfl d_Ln_putNewest_16 ?_
    refine v_iconst C (v := 1) d_Ln_putNewest_19 (by decide) ?_
    refine v_iadd C d_Ln_putNewest_20 ?_
    refine V.eqst (st' := [.int (nI (sz + 1)), .ref ln]) (by rw [nI_1]) ?_
    refine v_put C in_Ln t_Ln to_Ln nm_Ln h1 cl_Ln 1 (by decide) (fs' := [.ref sl, .int (nI (sz + 1))]) w_58 rfl rfl rfl rfl (Nat.le_of_ble_eq_true rfl) rfl d_Ln_putNewest_21 ?_
    refine v_aload_n C (i := 0) d_Ln_putNewest_24 rfl rfl ?_
    refine v_get C (v := .ref sl) in_Ln (mset_self _ _ _) cl_Ln 0 (by decide) w_57 rfl rfl d_Ln_putNewest_25 ?_
    refine v_aload_n C (i := 0) d_Ln_putNewest_28 rfl rfl ?_
    refine v_get C (v := .int (nI (sz + 1))) in_Ln (mset_self _ _ _) cl_Ln 1 (by decide) w_58 rfl rfl d_Ln_putNewest_29 ?_
    refine v_iconst C (v := 1) d_Ln_putNewest_32 (by decide) ?_
    refine v_isub C d_Ln_putNewest_33 ?_
    refine V.eqst (st' := [.int (nI sz), .ref sl]) (by rw [nI_pred]) ?_
    refine v_aldq C (N := N) (f := g) 3 ((mset_ne (mne h2 h1 rfl)).trans h2) rfl (pk_in sz N (by omega)) (v := .ref (a sz)) (by rw [pk_cl sz, hg sz (by omega)]; rfl) d_Ln_putNewest_34 ?_
    exact v_aret hQ C rfl (Or.inr ⟨_, rfl⟩) d_Ln_putNewest_35 (by omega) (by omega) (Or.inr ⟨hlt, rfl, rfl⟩)
  · have hge : N ≤ sz := Nat.le_of_not_lt (fun h => c_9 ((nI_ltI (by omega) (by omega)).mpr h))
    refine v_null C d_Ln_putNewest_12 ?_
    exact v_aret hQ C rfl (Or.inl rfl) d_Ln_putNewest_13 (by omega) (by omega) (Or.inl ⟨hge, rfl, rfl⟩)
set_option maxHeartbeats 4000000 in
set_option maxRecDepth 100000 in
theorem ct_Ln_takeOldest {D : va_G} {l : Launch} {cI cZ cR cM : ClassId} {M : Mem} {ln sl sz N : Nat} {g : Nat → Option Nat} {a : Nat → Nat} (h1 : M ln = some (ob 0 [.ref sl, .int (nI sz)])) (h2 : M sl = some (aQ cM N g)) (hN : N ≤ 200) (hsz : sz ≤ N) (hg : ∀ j, j < N → g j = some (a j)) (hms : ∀ j, j < N → ∃ fs, M (a j) = some (ob 1 fs)) : Ct TT D cls (tyL cI cZ cR cM) l y_Ln_takeOldest b_Ln_takeOldest 3 (some (.object "BlockTargetSession$Message")) 0 0 0 0 [.ref ln] M (fun rv M' => (sz = 0 ∧ rv = some .null ∧ M' = M) ∨ ∃ m g', sz = m + 1 ∧ rv = some (.ref (a 0)) ∧ M' = mset (mset M ln (ob 0 [.ref sl, .int (nI m)])) sl (aQ cM N g') ∧ (∀ j, j < m → g' j = g (j + 1)) ∧ g' m = g 0 ∧ ∀ j, m < j → g' j = g j) := by
  refine ct_of "BlockTargetSession$Line" rfl (by decide) (Nat.le_of_ble_eq_true rfl) ?_
  intro Z hl hD hnm hQ C
  subst hl
  subst hD
  show V cls 3 (rmOf 0 0 0 0) Z 0 [(0, .ref ln)] [] M 0 0
  refine v_aload_n C (i := 0) d_Ln_takeOldest_0 rfl rfl ?_
  refine v_get C (v := .int (nI sz)) in_Ln h1 cl_Ln 1 (by decide) w_58 rfl rfl d_Ln_takeOldest_1 ?_
  refine v_if_ne C 9 d_Ln_takeOldest_4 (by decide) (fun c_4 => ?_) (fun c_4 => ?_)
  · obtain ⟨m, rfl⟩ : ∃ m, sz = m + 1 := ⟨sz - 1, by have : sz ≠ 0 := fun h => c_4 (by rw [h]; exact nI_0); omega⟩
    refine v_aload_n C (i := 0) d_Ln_takeOldest_9 rfl rfl ?_
    refine v_get C (v := .ref sl) in_Ln h1 cl_Ln 0 (by decide) w_57 rfl rfl d_Ln_takeOldest_10 ?_
    refine v_iconst C (v := 0) d_Ln_takeOldest_13 (by decide) ?_
    refine v_aldq C (N := N) (f := g) 3 h2 rfl (pk_in 0 N (by omega) nI_0.symm) (v := .ref (a 0)) (by rw [pk_cl 0 nI_0.symm, hg 0 (by omega)]; rfl) d_Ln_takeOldest_14 ?_
    refine v_astore_n C (i := 1) (lv' := [(1, .ref (a 0)), (0, .ref ln)]) d_Ln_takeOldest_15 rfl (by decide) rfl ?_
    refine v_aload_n C (i := 0) d_Ln_takeOldest_16 rfl rfl ?_
    refine v_dup C d_Ln_takeOldest_17 rfl ?_
    refine v_get C (v := .int (nI (m + 1))) in_Ln h1 cl_Ln 1 (by decide) w_58 rfl rfl d_Ln_takeOldest_18 ?_
    refine v_iconst C (v := 1) d_Ln_takeOldest_21 (by decide) ?_
    refine v_isub C d_Ln_takeOldest_22 ?_
    refine V.eqst (st' := [.int (nI m), .ref ln]) (by rw [nI_pred]) ?_
    refine v_put C in_Ln t_Ln to_Ln nm_Ln h1 cl_Ln 1 (by decide) (fs' := [.ref sl, .int (nI m)]) w_58 rfl rfl rfl rfl (Nat.le_of_ble_eq_true rfl) rfl d_Ln_takeOldest_23 ?_
    refine v_iconst C (v := 0) d_Ln_takeOldest_26 (by decide) ?_
    refine v_istore_n C (i := 2) (lv' := [(2, .int 0), (1, .ref (a 0)), (0, .ref ln)]) d_Ln_takeOldest_27 rfl (by decide) rfl ?_
    have n1 : sl ≠ ln := mne h2 h1 rfl
    have hsl : (mset M ln (ob 0 [.ref sl, .int (nI m)])) sl = some (aQ cM N g) := (mset_ne n1).trans h2
    have L : ∀ (fu i : Nat) (g1 : Nat → Option Nat), m - i < fu → i ≤ m → (∀ j, j < i → g1 j = g (j + 1)) → (∀ j, i ≤ j → g1 j = g j) → V cls 3 (rmOf 0 0 0 0) Z 28 [(2, .int (nI i)), (1, .ref (a 0)), (0, .ref ln)] [] (mset (mset M ln (ob 0 [.ref sl, .int (nI m)])) sl (aQ cM N g1)) 0 0 := by
      intro fu
      induction fu with
      | zero => intro i g1 hf; omega
      | succ fu ih =>
        intro i g1 hf hi ha hb
        refine v_iload_n C (i := 2) d_Ln_takeOldest_28 rfl rfl ?_
        refine v_aload_n C (i := 0) d_Ln_takeOldest_29 rfl rfl ?_
        refine v_get C (v := .int (nI m)) in_Ln ((mset_ne (Ne.symm n1)).trans (mset_self _ _ _)) cl_Ln 1 (by decide) w_58 rfl rfl d_Ln_takeOldest_30 ?_
        refine v_icmp_ge C 56 d_Ln_takeOldest_33 (by decide) (fun c_33 => ?_) (fun c_33 => ?_)
        · have hi2 : i = m := Nat.le_antisymm hi ((nI_leI (by omega) (by omega)).mp c_33)
          subst hi2
          obtain ⟨fs, hfs⟩ := hms (0) (by omega)
          have hfs2 : (mset (mset M ln (ob 0 [.ref sl, .int (nI i)])) sl (aQ cM N g1)) (a (0)) = some (ob 1 fs) := by rw [mset_ne (mne hfs h2 rfl), mset_ne (mne hfs h1 rfl)]; exact hfs
          refine v_aload_n C (i := 0) d_Ln_takeOldest_56 rfl rfl ?_
          refine v_get C (v := .ref sl) in_Ln ((mset_ne (Ne.symm n1)).trans (mset_self _ _ _)) cl_Ln 0 (by decide) w_57 rfl rfl d_Ln_takeOldest_57 ?_
          refine v_aload_n C (i := 0) d_Ln_takeOldest_60 rfl rfl ?_
          refine v_get C (v := .int (nI i)) in_Ln ((mset_ne (Ne.symm n1)).trans (mset_self _ _ _)) cl_Ln 1 (by decide) w_58 rfl rfl d_Ln_takeOldest_61 ?_
          refine v_aload_n C (i := 1) d_Ln_takeOldest_64 rfl rfl ?_
          refine v_astq C (N := N) (f := g1) 3 1 (mset_self _ _ _) rfl hfs2 cl_Ms (pk_in i N (by omega)) d_Ln_takeOldest_65 ?_
          rw [show Int32.toNatClampNeg (nI i) = i from pk_cl _ (hx := rfl)]
          rw [mset_set]
          refine v_aload_n C (i := 1) d_Ln_takeOldest_66 rfl rfl ?_
          exact v_aret hQ C rfl (Or.inr ⟨_, rfl⟩) d_Ln_takeOldest_67 (by omega) (by omega) (Or.inr ⟨i, _, rfl, rfl, rfl, (fun j hj => by rw [va_up_ne _ _ (by omega)]; exact ha j hj), by rw [va_up_self, hg 0 (by omega)], (fun j hj => by rw [va_up_ne _ _ (by omega)]; exact hb j (by omega))⟩)
        · have hi2 : i < m := Nat.lt_of_not_le (fun h => c_33 ((nI_leI (by omega) (by omega)).mpr h))
          obtain ⟨fs, hfs⟩ := hms (i + 1) (by omega)
          have hfs2 : (mset (mset M ln (ob 0 [.ref sl, .int (nI m)])) sl (aQ cM N g1)) (a (i + 1)) = some (ob 1 fs) := by rw [mset_ne (mne hfs h2 rfl), mset_ne (mne hfs h1 rfl)]; exact hfs
          refine v_aload_n C (i := 0) d_Ln_takeOldest_36 rfl rfl ?_
          refine v_get C (v := .ref sl) in_Ln ((mset_ne (Ne.symm n1)).trans (mset_self _ _ _)) cl_Ln 0 (by decide) w_57 rfl rfl d_Ln_takeOldest_37 ?_
          refine v_iload_n C (i := 2) d_Ln_takeOldest_40 rfl rfl ?_
          refine v_aload_n C (i := 0) d_Ln_takeOldest_41 rfl rfl ?_
          refine v_get C (v := .ref sl) in_Ln ((mset_ne (Ne.symm n1)).trans (mset_self _ _ _)) cl_Ln 0 (by decide) w_57 rfl rfl d_Ln_takeOldest_42 ?_
          refine v_iload_n C (i := 2) d_Ln_takeOldest_45 rfl rfl ?_
          refine v_iconst C (v := 1) d_Ln_takeOldest_46 (by decide) ?_
          refine v_iadd C d_Ln_takeOldest_47 ?_
          refine V.eqst (st' := [.int (nI (i + 1)), .ref sl, .int (nI i), .ref sl]) (by rw [nI_1]) ?_
          refine v_aldq C (N := N) (f := g1) 3 (mset_self _ _ _) rfl (pk_in (i + 1) N (by omega)) (v := .ref (a (i + 1))) (by rw [pk_cl (i + 1), hb (i + 1) (by omega), hg (i + 1) (by omega)]; rfl) d_Ln_takeOldest_48 ?_
          refine v_astq C (N := N) (f := g1) 3 1 (mset_self _ _ _) rfl hfs2 cl_Ms (pk_in i N (by omega)) d_Ln_takeOldest_49 ?_
          rw [show Int32.toNatClampNeg (nI i) = i from pk_cl _ (hx := rfl)]
          rw [mset_set]
          refine v_iinc C (i := 2) (j := 0) (v := nI (i + 1)) (lv' := [(2, .int (nI (i + 1))), (1, .ref (a 0)), (0, .ref ln)]) d_Ln_takeOldest_50 rfl (nI_1 i) (by decide) rfl ?_
          refine v_goto C 28 d_Ln_takeOldest_53 (by decide) ?_
          exact ih (i + 1) _ (by omega) (by omega) (fun j hj => by
            by_cases c : j = i
            · subst c; rw [va_up_self, hg (j + 1) (by omega)]
            · rw [va_up_ne _ _ c]; exact ha j (by omega)) (fun j hj => by rw [va_up_ne _ _ (by omega)]; exact hb j (by omega))
    refine V.eqM (mset_id hsl).symm ?_
    exact L (m + 1) 0 g (by omega) (by omega) (fun j hj => absurd hj (Nat.not_lt_zero j)) (fun j _ => rfl)
  · have hz0 : sz = 0 := Classical.byContradiction fun h => nI_ne0 (Nat.pos_of_ne_zero h) (by omega) c_4
    refine v_null C d_Ln_takeOldest_7 ?_
    exact v_aret hQ C rfl (Or.inl rfl) d_Ln_takeOldest_8 (by omega) (by omega) (Or.inl ⟨hz0, rfl, rfl⟩)
set_option maxHeartbeats 4000000 in
set_option maxRecDepth 100000 in
theorem ct_Ms_fill {D : va_G} {l : Launch} {cI cZ cR cM : ClassId} {M : Mem} {a : Nat} {u0 u1 u2 u3 u4 u5 : Int32} (h1 : M a = some (ob 1 [.int u0, .int u1, .int u2, .int u3, .int u4, .int u5])) (v0 v1 v2 v3 v4 : Int32) : Ct TT D cls (tyL cI cZ cR cM) l y_Ms_fill b_Ms_fill 6 none 0 0 0 0 [.ref a, .int v0, .int v1, .int v2, .int v3, .int v4] M (fun rv M' => rv = none ∧ M' = mset M a (ob 1 [.int v0, .int v1, .int v2, .int v3, .int v4, .int 0])) := by
  refine ct_of "BlockTargetSession$Message" rfl (by decide) (Nat.le_of_ble_eq_true rfl) ?_
  intro Z hl hD hnm hQ C
  subst hl
  subst hD
  show V cls 6 (rmOf 0 0 0 0) Z 0 [(0, .ref a), (1, .int v0), (2, .int v1), (3, .int v2), (4, .int v3), (5, .int v4)] [] M 0 0
  refine v_aload_n C (i := 0) d_Ms_fill_0 rfl rfl ?_
  refine v_iload_n C (i := 1) d_Ms_fill_1 rfl rfl ?_
  refine v_put C in_Ms t_Ms to_Ms nm_Ms h1 cl_Ms 0 (by decide) (fs' := [.int v0, .int u1, .int u2, .int u3, .int u4, .int u5]) w_32 rfl rfl rfl rfl (Nat.le_of_ble_eq_true rfl) rfl d_Ms_fill_2 ?_
  refine v_aload_n C (i := 0) d_Ms_fill_5 rfl rfl ?_
  refine v_iload_n C (i := 2) d_Ms_fill_6 rfl rfl ?_
  refine v_put C in_Ms t_Ms to_Ms nm_Ms (mset_self _ _ _) cl_Ms 1 (by decide) (fs' := [.int v0, .int v1, .int u2, .int u3, .int u4, .int u5]) w_34 rfl rfl rfl rfl (Nat.le_of_ble_eq_true rfl) rfl d_Ms_fill_7 ?_
  rw [mset_set]
  refine v_aload_n C (i := 0) d_Ms_fill_10 rfl rfl ?_
  refine v_iload_n C (i := 3) d_Ms_fill_11 rfl rfl ?_
  refine v_put C in_Ms t_Ms to_Ms nm_Ms (mset_self _ _ _) cl_Ms 2 (by decide) (fs' := [.int v0, .int v1, .int v2, .int u3, .int u4, .int u5]) w_36 rfl rfl rfl rfl (Nat.le_of_ble_eq_true rfl) rfl d_Ms_fill_12 ?_
  rw [mset_set]
  refine v_aload_n C (i := 0) d_Ms_fill_15 rfl rfl ?_
  refine v_iload C (i := 4) d_Ms_fill_16 rfl ?_
  refine v_put C in_Ms t_Ms to_Ms nm_Ms (mset_self _ _ _) cl_Ms 3 (by decide) (fs' := [.int v0, .int v1, .int v2, .int v3, .int u4, .int u5]) w_38 rfl rfl rfl rfl (Nat.le_of_ble_eq_true rfl) rfl d_Ms_fill_18 ?_
  rw [mset_set]
  refine v_aload_n C (i := 0) d_Ms_fill_21 rfl rfl ?_
  refine v_iload C (i := 5) d_Ms_fill_22 rfl ?_
  refine v_put C in_Ms t_Ms to_Ms nm_Ms (mset_self _ _ _) cl_Ms 4 (by decide) (fs' := [.int v0, .int v1, .int v2, .int v3, .int v4, .int u5]) w_40 rfl rfl rfl rfl (Nat.le_of_ble_eq_true rfl) rfl d_Ms_fill_24 ?_
  rw [mset_set]
  refine v_aload_n C (i := 0) d_Ms_fill_27 rfl rfl ?_
  refine v_iconst C (v := 0) d_Ms_fill_28 (by decide) ?_
  refine v_put C in_Ms t_Ms to_Ms nm_Ms (mset_self _ _ _) cl_Ms 5 (by decide) (fs' := [.int v0, .int v1, .int v2, .int v3, .int v4, .int 0]) w_42 rfl rfl rfl rfl (Nat.le_of_ble_eq_true rfl) rfl d_Ms_fill_29 ?_
  rw [mset_set]
  exact v_vret hQ C rfl d_Ms_fill_32 (by omega) (by omega) ⟨rfl, rfl⟩
set_option maxHeartbeats 4000000 in
set_option maxRecDepth 100000 in
theorem ct_Ms_init {D : va_G} {l : Launch} {cI cZ cR cM : ClassId} {M : Mem} {a : Nat} {u0 u1 u2 u3 u4 u5 : Int32} (h1 : M a = some (ob 1 [.int u0, .int u1, .int u2, .int u3, .int u4, .int u5])) : Ct TT D cls (tyL cI cZ cR cM) l y_Ms_init b_Ms_init 1 none 1 24 0 0 [.ref a] M (fun rv M' => rv = none ∧ M' = mset M a (ob 1 [.int 0, .int 0, .int 0, .int 0, .int 0, .int 0])) := by
  refine ct_of "BlockTargetSession$Message" rfl (by decide) (Nat.le_of_ble_eq_true rfl) ?_
  intro Z hl hD hnm hQ C
  subst hl
  subst hD
  show V cls 1 (rmOf 1 24 0 0) Z 0 [(0, .ref a)] [] M 0 0
  refine v_aload_n C (i := 0) d_Ms_init_0 rfl rfl ?_
  refine v_objInit C w_31 w_15 w_16 (Nat.le_of_ble_eq_true rfl) (Nat.le_of_ble_eq_true rfl) d_Ms_init_1 ?_
  refine v_aload_n C (i := 0) d_Ms_init_4 rfl rfl ?_
  refine v_iconst C (v := 0) d_Ms_init_5 (by decide) ?_
  refine v_put C in_Ms t_Ms to_Ms nm_Ms h1 cl_Ms 0 (by decide) (fs' := [.int 0, .int u1, .int u2, .int u3, .int u4, .int u5]) w_32 rfl rfl rfl rfl (Nat.le_of_ble_eq_true rfl) rfl d_Ms_init_6 ?_
  refine v_aload_n C (i := 0) d_Ms_init_9 rfl rfl ?_
  refine v_iconst C (v := 0) d_Ms_init_10 (by decide) ?_
  refine v_put C in_Ms t_Ms to_Ms nm_Ms (mset_self _ _ _) cl_Ms 1 (by decide) (fs' := [.int 0, .int 0, .int u2, .int u3, .int u4, .int u5]) w_34 rfl rfl rfl rfl (Nat.le_of_ble_eq_true rfl) rfl d_Ms_init_11 ?_
  rw [mset_set]
  refine v_aload_n C (i := 0) d_Ms_init_14 rfl rfl ?_
  refine v_iconst C (v := 0) d_Ms_init_15 (by decide) ?_
  refine v_put C in_Ms t_Ms to_Ms nm_Ms (mset_self _ _ _) cl_Ms 2 (by decide) (fs' := [.int 0, .int 0, .int 0, .int u3, .int u4, .int u5]) w_36 rfl rfl rfl rfl (Nat.le_of_ble_eq_true rfl) rfl d_Ms_init_16 ?_
  rw [mset_set]
  refine v_aload_n C (i := 0) d_Ms_init_19 rfl rfl ?_
  refine v_iconst C (v := 0) d_Ms_init_20 (by decide) ?_
  refine v_put C in_Ms t_Ms to_Ms nm_Ms (mset_self _ _ _) cl_Ms 3 (by decide) (fs' := [.int 0, .int 0, .int 0, .int 0, .int u4, .int u5]) w_38 rfl rfl rfl rfl (Nat.le_of_ble_eq_true rfl) rfl d_Ms_init_21 ?_
  rw [mset_set]
  refine v_aload_n C (i := 0) d_Ms_init_24 rfl rfl ?_
  refine v_iconst C (v := 0) d_Ms_init_25 (by decide) ?_
  refine v_put C in_Ms t_Ms to_Ms nm_Ms (mset_self _ _ _) cl_Ms 4 (by decide) (fs' := [.int 0, .int 0, .int 0, .int 0, .int 0, .int u5]) w_40 rfl rfl rfl rfl (Nat.le_of_ble_eq_true rfl) rfl d_Ms_init_26 ?_
  rw [mset_set]
  refine v_aload_n C (i := 0) d_Ms_init_29 rfl rfl ?_
  refine v_iconst C (v := 0) d_Ms_init_30 (by decide) ?_
  refine v_put C in_Ms t_Ms to_Ms nm_Ms (mset_self _ _ _) cl_Ms 5 (by decide) (fs' := [.int 0, .int 0, .int 0, .int 0, .int 0, .int 0]) w_42 rfl rfl rfl rfl (Nat.le_of_ble_eq_true rfl) rfl d_Ms_init_31 ?_
  rw [mset_set]
  exact v_vret hQ C rfl d_Ms_init_34 (by omega) (by omega) ⟨rfl, rfl⟩
set_option maxHeartbeats 4000000 in
set_option maxRecDepth 100000 in
theorem ct_Ar_fill {D : va_G} {l : Launch} {cI cZ cR cM : ClassId} {M : Mem} {a N : Nat} {f : Nat → Int32} (h1 : M a = some (aI cI N f)) (hN : N ≤ 200) (v : Int32) : Ct TT D cls (tyL cI cZ cR cM) l y_Ar_fill b_Ar_fill 4 none 0 0 0 0 [.ref a, .int v] M (fun rv M' => rv = none ∧ ∃ f', M' = mset M a (aI cI N f') ∧ ∀ j, j < N → f' j = v) := by
  refine ct_of "java/util/Arrays" rfl (by decide) (Nat.le_of_ble_eq_true rfl) ?_
  intro Z hl hD hnm hQ C
  subst hl
  subst hD
  show V cls 4 (rmOf 0 0 0 0) Z 0 [(0, .ref a), (1, .int v)] [] M 0 0
  refine v_iconst C (v := 0) d_Ar_fill_0 (by decide) ?_
  refine v_istore_n C (i := 2) (lv' := [(2, .int 0), (0, .ref a), (1, .int v)]) d_Ar_fill_1 rfl (by decide) rfl ?_
  refine v_aload_n C (i := 0) d_Ar_fill_2 rfl rfl ?_
  refine v_alen C (x := (N, .inl f)) (v := nI N) 0 h1 rfl rfl d_Ar_fill_3 ?_
  refine v_istore_n C (i := 3) (lv' := [(3, .int (nI N)), (2, .int 0), (0, .ref a), (1, .int v)]) d_Ar_fill_4 rfl (by decide) rfl ?_
  have L : ∀ (fu i : Nat) (f1 : Nat → Int32), N - i < fu → i ≤ N → (∀ j, j < i → f1 j = v) → V cls 4 (rmOf 0 0 0 0) Z 5 [(3, .int (nI N)), (2, .int (nI i)), (0, .ref a), (1, .int v)] [] (mset M a (aI cI N f1)) 0 0 := by
    intro fu
    induction fu with
    | zero => intro i f1 hf; omega
    | succ fu ih =>
      intro i f1 hf hi ha
      refine v_iload_n C (i := 2) d_Ar_fill_5 rfl rfl ?_
      refine v_iload_n C (i := 3) d_Ar_fill_6 rfl rfl ?_
      refine v_icmp_ge C 20 d_Ar_fill_7 (by decide) (fun c_7 => ?_) (fun c_7 => ?_)
      · have hi2 : N ≤ i := (nI_leI (by omega) (by omega)).mp c_7
        exact v_vret hQ C rfl d_Ar_fill_20 (by omega) (by omega) ⟨rfl, _, rfl, fun j hj => ha j (by omega)⟩
      · have hi2 : i < N := Nat.lt_of_not_le (fun h => c_7 ((nI_leI (by omega) (by omega)).mpr h))
        refine v_aload_n C (i := 0) d_Ar_fill_10 rfl rfl ?_
        refine v_iload_n C (i := 2) d_Ar_fill_11 rfl rfl ?_
        refine v_iload_n C (i := 1) d_Ar_fill_12 rfl rfl ?_
        refine v_iast C (N := N) (f := f1) 0 (mset_self _ _ _) rfl (pk_in i N (by omega)) d_Ar_fill_13 ?_
        rw [show Int32.toNatClampNeg (nI i) = i from pk_cl _ (hx := rfl)]
        rw [mset_set]
        refine v_iinc C (i := 2) (j := 1) (v := nI (i + 1)) (lv' := [(2, .int (nI (i + 1))), (3, .int (nI N)), (0, .ref a), (1, .int v)]) d_Ar_fill_14 rfl (nI_1 i) (by decide) rfl ?_
        refine v_goto C 5 d_Ar_fill_17 (by decide) ?_
        refine V.pick (lv' := [(3, .int (nI N)), (2, .int (nI (i + 1))), (0, .ref a), (1, .int v)]) [1, 0, 2, 3] rfl ?_
        exact ih (i + 1) _ (by omega) (by omega) (fun j hj => by
          by_cases c : j = i
          · subst c; rw [pk_us]
          · rw [pk_un c]; exact ha j (by omega))
  refine V.pick (lv' := [(3, .int (nI N)), (2, .int 0), (0, .ref a), (1, .int v)]) [0, 1, 2, 3] rfl ?_
  refine V.eqM (mset_id h1).symm ?_
  exact L (N + 1) 0 f (by omega) (by omega) (fun j hj => absurd hj (Nat.not_lt_zero j))
set_option maxHeartbeats 4000000 in
set_option maxRecDepth 100000 in
theorem ct_Rq_keepResult {D : va_G} {l : Launch} {cI cZ cR cM : ClassId} {M : Mem} {q rr N : Nat} {f : Nat → Int32} {k0 k1 k2 k3 k5 : Int32} (h1 : M q = some (ob 2 [.int k0, .int k1, .int k2, .int k3, .ref rr, .int k5])) (h2 : M rr = some (aI cI N f)) (hN : N ≤ 200) (j : Nat) (hj : j < N) (v : Int32) : Ct TT D cls (tyL cI cZ cR cM) l y_Rq_keepResult b_Rq_keepResult 3 none 0 0 0 0 [.ref q, .int (nI j), .int v] M (fun rv M' => rv = none ∧ M' = mset M rr (aI cI N (upd f j v))) := by
  refine ct_of "BlockTargetSession$Request" rfl (by decide) (Nat.le_of_ble_eq_true rfl) ?_
  intro Z hl hD hnm hQ C
  subst hl
  subst hD
  show V cls 3 (rmOf 0 0 0 0) Z 0 [(0, .ref q), (1, .int (nI j)), (2, .int v)] [] M 0 0
  refine v_iload_n C (i := 1) d_Rq_keepResult_0 rfl rfl ?_
  refine v_if_lt C 20 d_Rq_keepResult_1 (by decide) (fun c_1 => absurd c_1 (nI_pos (by omega))) (fun c_1 => ?_)
  refine v_iload_n C (i := 1) d_Rq_keepResult_4 rfl rfl ?_
  refine v_aload_n C (i := 0) d_Rq_keepResult_5 rfl rfl ?_
  refine v_get C (v := .ref rr) in_Rq h1 cl_Rq 4 (by decide) w_164 rfl rfl d_Rq_keepResult_6 ?_
  refine v_alen C (x := (N, .inl f)) (v := nI N) 0 h2 rfl rfl d_Rq_keepResult_9 ?_
  refine v_icmp_ge C 20 d_Rq_keepResult_10 (by decide) (fun c_10 => absurd c_10 (nI_ge hj (by omega))) (fun c_10 => ?_)
  refine v_aload_n C (i := 0) d_Rq_keepResult_13 rfl rfl ?_
  refine v_get C (v := .ref rr) in_Rq h1 cl_Rq 4 (by decide) w_164 rfl rfl d_Rq_keepResult_14 ?_
  refine v_iload_n C (i := 1) d_Rq_keepResult_17 rfl rfl ?_
  refine v_iload_n C (i := 2) d_Rq_keepResult_18 rfl rfl ?_
  refine v_iast C (N := N) (f := f) 0 h2 rfl (pk_in j N hj) d_Rq_keepResult_19 ?_
  rw [show Int32.toNatClampNeg (nI j) = j from pk_cl _ (hx := rfl)]
  exact v_vret hQ C rfl d_Rq_keepResult_20 (by omega) (by omega) ⟨rfl, rfl⟩
set_option maxHeartbeats 4000000 in
set_option maxRecDepth 100000 in
theorem ct_Rq_reopen {D : va_G} {l : Launch} {cI cZ cR cM : ClassId} {M : Mem} {q rr N : Nat} {f : Nat → Int32} {k0 k1 k2 k3 k5 : Int32} (h1 : M q = some (ob 2 [.int k0, .int k1, .int k2, .int k3, .ref rr, .int k5])) (h2 : M rr = some (aI cI N f)) (hN : N ≤ 200) : Ct TT D cls (tyL cI cZ cR cM) l y_Rq_reopen b_Rq_reopen 1 none 1 23 0 0 [.ref q] M (fun rv M' => rv = none ∧ ∃ f', M' = mset (mset M q (ob 2 [.int k0, .int k1, .int k2, .int k3, .ref rr, .int 0])) rr (aI cI N f') ∧ ∀ j, j < N → f' j = 0) := by
  refine ct_of "BlockTargetSession$Request" rfl (by decide) (Nat.le_of_ble_eq_true rfl) ?_
  intro Z hl hD hnm hQ C
  subst hl
  subst hD
  show V cls 1 (rmOf 1 23 0 0) Z 0 [(0, .ref q)] [] M 0 0
  refine v_aload_n C (i := 0) d_Rq_reopen_0 rfl rfl ?_
  refine v_iconst C (v := 0) d_Rq_reopen_1 (by decide) ?_
  refine v_put C in_Rq t_Rq to_Rq nm_Rq h1 cl_Rq 5 (by decide) (fs' := [.int k0, .int k1, .int k2, .int k3, .ref rr, .int 0]) w_166 rfl rfl rfl rfl (Nat.le_of_ble_eq_true rfl) rfl d_Rq_reopen_2 ?_
  refine v_aload_n C (i := 0) d_Rq_reopen_5 rfl rfl ?_
  refine v_get C (v := .ref rr) in_Rq (mset_self _ _ _) cl_Rq 4 (by decide) w_164 rfl rfl d_Rq_reopen_6 ?_
  refine v_iconst C (v := 0) d_Rq_reopen_9 (by decide) ?_
  refine v_callS C (As := [.ref rr, .int 0]) (rest := []) w_234 (ct_Ar_fill ((mset_ne (mne h2 h1 rfl)).trans h2) hN 0) (Nat.le_of_ble_eq_true rfl) (Nat.le_of_ble_eq_true rfl) w_235 w_8 hy_Ar_fill w_233 rfl (Nat.le_of_ble_eq_true rfl) ⟨by decide, by decide⟩ d_Rq_reopen_10 (fun rv M hp => ?_)
  obtain ⟨rfl, f', rfl, hf⟩ := hp
  refine V.eqst (st' := []) rfl (V.cs (k' := 0) (n' := 0) rfl rfl ?_)
  exact v_vret hQ C rfl d_Rq_reopen_13 (by omega) (by omega) ⟨rfl, f', rfl, hf⟩
def clampI (x lo hi : Int32) : Int32 := if lo < (if x < hi then x else hi) then (if x < hi then x else hi) else lo
set_option maxHeartbeats 4000000 in
set_option maxRecDepth 100000 in
theorem ct_Bs_clamp {D : va_G} {l : Launch} {cI cZ cR cM : ClassId} {M : Mem} (x lo hi : Int32) : Ct TT D cls (tyL cI cZ cR cM) l y_Bs_clamp b_Bs_clamp 3 (some .int) 1 24 0 0 [.int x, .int lo, .int hi] M (fun rv M' => rv = some (.int (clampI x lo hi)) ∧ M' = M) := by
  refine ct_of "BlockTargetSession" rfl (by decide) (Nat.le_of_ble_eq_true rfl) ?_
  intro Z hl hD hnm hQ C
  subst hl
  subst hD
  show V cls 3 (rmOf 1 24 0 0) Z 0 [(0, .int x), (1, .int lo), (2, .int hi)] [] M 0 0
  refine v_iload_n C (i := 1) d_Bs_clamp_0 rfl rfl ?_
  refine v_iload_n C (i := 2) d_Bs_clamp_1 rfl rfl ?_
  refine v_iload_n C (i := 0) d_Bs_clamp_2 rfl rfl ?_
  refine v_mmin C w_68 w_69 w_4 w_70 (by decide) (Nat.le_of_ble_eq_true rfl) (by decide) (by decide) d_Bs_clamp_3 ?_
  refine v_mmax C w_71 w_72 w_4 w_73 (by decide) (Nat.le_of_ble_eq_true rfl) (by decide) (by decide) d_Bs_clamp_6 ?_
  exact v_iret hQ C rfl d_Bs_clamp_9 (by omega) (by omega) ⟨rfl, rfl⟩
def isB (x : Int32) : Prop := ¬ x < 0 ∧ ¬ 16 ≤ x
set_option maxHeartbeats 4000000 in
set_option maxRecDepth 100000 in
theorem ct_Bs_isBlock {D : va_G} {l : Launch} {cI cZ cR cM : ClassId} {M : Mem} (x : Int32) : Ct TT D cls (tyL cI cZ cR cM) l y_Bs_isBlock b_Bs_isBlock 1 (some .boolean) 0 0 0 0 [.int x] M (fun rv M' => (isB x ∧ rv = some (.int 1) ∧ M' = M) ∨ (¬ isB x ∧ rv = some (.int 0) ∧ M' = M)) := by
  refine ct_of "BlockTargetSession" rfl (by decide) (Nat.le_of_ble_eq_true rfl) ?_
  intro Z hl hD hnm hQ C
  subst hl
  subst hD
  show V cls 1 (rmOf 0 0 0 0) Z 0 [(0, .int x)] [] M 0 0
  refine v_iload_n C (i := 0) d_Bs_isBlock_0 rfl rfl ?_
  refine v_if_lt C 14 d_Bs_isBlock_1 (by decide) (fun c_1 => ?_) (fun c_1 => ?_)
  · refine v_iconst C (v := 0) d_Bs_isBlock_14 (by decide) ?_
    exact v_zret hQ C rfl rfl d_Bs_isBlock_15 (by omega) (by omega) (Or.inr ⟨fun h => h.1 c_1, rfl, rfl⟩)
  · refine v_iload_n C (i := 0) d_Bs_isBlock_4 rfl rfl ?_
    refine v_bipush C (v := 16) d_Bs_isBlock_5 (by decide) ?_
    refine v_icmp_ge C 14 d_Bs_isBlock_7 (by decide) (fun c_7 => ?_) (fun c_7 => ?_)
    · refine v_iconst C (v := 0) d_Bs_isBlock_14 (by decide) ?_
      exact v_zret hQ C rfl rfl d_Bs_isBlock_15 (by omega) (by omega) (Or.inr ⟨fun h => h.2 c_7, rfl, rfl⟩)
    · refine v_iconst C (v := 1) d_Bs_isBlock_10 (by decide) ?_
      refine v_goto C 15 d_Bs_isBlock_11 (by decide) ?_
      exact v_zret hQ C rfl rfl d_Bs_isBlock_15 (by omega) (by omega) (Or.inl ⟨⟨c_1, c_7⟩, rfl, rfl⟩)
def isS (x n : Int32) : Prop := isB x ∧ ¬ n < 1 ∧ ¬ 3 < n ∧ ¬ 16 < x + n
set_option maxHeartbeats 4000000 in
set_option maxRecDepth 100000 in
theorem ct_Bs_isStretch {D : va_G} {l : Launch} {cI cZ cR cM : ClassId} {M : Mem} (x n : Int32) : Ct TT D cls (tyL cI cZ cR cM) l y_Bs_isStretch b_Bs_isStretch 2 (some .boolean) 1 20 0 0 [.int x, .int n] M (fun rv M' => (isS x n ∧ rv = some (.int 1) ∧ M' = M) ∨ (¬ isS x n ∧ rv = some (.int 0) ∧ M' = M)) := by
  refine ct_of "BlockTargetSession" rfl (by decide) (Nat.le_of_ble_eq_true rfl) ?_
  intro Z hl hD hnm hQ C
  subst hl
  subst hD
  show V cls 2 (rmOf 1 20 0 0) Z 0 [(0, .int x), (1, .int n)] [] M 0 0
  refine v_iload_n C (i := 0) d_Bs_isStretch_0 rfl rfl ?_
  refine v_callS C (As := [.int x]) (rest := []) w_145 (ct_Bs_isBlock x) (Nat.le_of_ble_eq_true rfl) (Nat.le_of_ble_eq_true rfl) w_146 w_1 hy_Bs_isBlock w_144 rfl (Nat.le_of_ble_eq_true rfl) ⟨by decide, by decide⟩ d_Bs_isStretch_1 (fun rv M hp => ?_)
  rcases hp with ⟨hb, rfl, rfl⟩ | ⟨hb, rfl, rfl⟩
  · refine V.eqst (st' := [.int 1]) rfl (V.cs (k' := 0) (n' := 0) rfl rfl ?_)
    refine v_if_eq C 29 d_Bs_isStretch_4 (by decide) (fun c_4 => absurd c_4 (by decide)) (fun c_4 => ?_)
    refine v_iload_n C (i := 1) d_Bs_isStretch_7 rfl rfl ?_
    refine v_iconst C (v := 1) d_Bs_isStretch_8 (by decide) ?_
    refine v_icmp_lt C 29 d_Bs_isStretch_9 (by decide) (fun c_9 => ?_) (fun c_9 => ?_)
    · refine v_iconst C (v := 0) d_Bs_isStretch_29 (by decide) ?_
      exact v_zret hQ C rfl rfl d_Bs_isStretch_30 (by omega) (by omega) (Or.inr ⟨fun h => h.2.1 c_9, rfl, rfl⟩)
    · refine v_iload_n C (i := 1) d_Bs_isStretch_12 rfl rfl ?_
      refine v_iconst C (v := 3) d_Bs_isStretch_13 (by decide) ?_
      refine v_icmp_gt C 29 d_Bs_isStretch_14 (by decide) (fun c_14 => ?_) (fun c_14 => ?_)
      · refine v_iconst C (v := 0) d_Bs_isStretch_29 (by decide) ?_
        exact v_zret hQ C rfl rfl d_Bs_isStretch_30 (by omega) (by omega) (Or.inr ⟨fun h => h.2.2.1 c_14, rfl, rfl⟩)
      · refine v_iload_n C (i := 0) d_Bs_isStretch_17 rfl rfl ?_
        refine v_iload_n C (i := 1) d_Bs_isStretch_18 rfl rfl ?_
        refine v_iadd C d_Bs_isStretch_19 ?_
        refine v_bipush C (v := 16) d_Bs_isStretch_20 (by decide) ?_
        refine v_icmp_gt C 29 d_Bs_isStretch_22 (by decide) (fun c_22 => ?_) (fun c_22 => ?_)
        · refine v_iconst C (v := 0) d_Bs_isStretch_29 (by decide) ?_
          exact v_zret hQ C rfl rfl d_Bs_isStretch_30 (by omega) (by omega) (Or.inr ⟨fun h => h.2.2.2 c_22, rfl, rfl⟩)
        · refine v_iconst C (v := 1) d_Bs_isStretch_25 (by decide) ?_
          refine v_goto C 30 d_Bs_isStretch_26 (by decide) ?_
          exact v_zret hQ C rfl rfl d_Bs_isStretch_30 (by omega) (by omega) (Or.inl ⟨⟨hb, c_9, c_14, c_22⟩, rfl, rfl⟩)
  · refine V.eqst (st' := [.int 0]) rfl (V.cs (k' := 0) (n' := 0) rfl rfl ?_)
    refine v_if_eq C 29 d_Bs_isStretch_4 (by decide) (fun c_4 => ?_) (fun c_4 => absurd (by decide) c_4)
    refine v_iconst C (v := 0) d_Bs_isStretch_29 (by decide) ?_
    exact v_zret hQ C rfl rfl d_Bs_isStretch_30 (by omega) (by omega) (Or.inr ⟨fun h => hb h.1, rfl, rfl⟩)
