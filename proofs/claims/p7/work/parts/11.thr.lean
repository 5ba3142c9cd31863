theorem tw_IAE : ∀ w ∈ vx_at0 RX9 190 IAE upn, w ∈ TS := by decide +kernel
theorem tw_ISE : ∀ w ∈ vx_at0 RX9 193 ISE upn, w ∈ TS := by decide +kernel
theorem tw_NSE : ∀ w ∈ vx_at0 RX9 181 NSE upn, w ∈ TS := by decide +kernel
theorem tg_IAE : ∀ w ∈ Cond.classLink RX9 188 IAE :: Cond.initialized IAE :: vx_at0 RX9 190 IAE upn, vx_ot w = true := by decide +kernel
theorem tg_ISE : ∀ w ∈ Cond.classLink RX9 191 ISE :: Cond.initialized ISE :: vx_at0 RX9 193 ISE upn, vx_ot w = true := by decide +kernel
theorem tg_NSE : ∀ w ∈ Cond.classLink RX9 179 NSE :: Cond.initialized NSE :: vx_at0 RX9 181 NSE upn, vx_ot w = true := by decide +kernel
